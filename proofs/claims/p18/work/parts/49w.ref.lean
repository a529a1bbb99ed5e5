theorem z_X11_rekey_1 (a0 : Int) (a1 : Int) (a2 : Int) (a3 : Int) (h0 : 0 ≤ a0 ∧ a0 ≤ 2388) (h1 : a1 = -2147483648 ∧ a2 = -2147483648 ∧ a3 = 0) : (0 ≤ a3 ∧ a3 ≤ 24) ∧ (0 ≤ a0 ∧ a0 ≤ 2388) := by omega
theorem z_X11_rekey_3 (a0 : Int) (a1 : Int) (h0 : (a1 = 1 ∧ 0 ≤ a0 ∧ a0 ≤ 2) ∨ (a1 = 0 ∧ (a0 < 0 ∨ 2 < a0))) (h1 : ¬ (a1 = 0)) : 0 ≤ a0 ∧ a0 < 3 := by omega
theorem z_X11_rekey_4 (a0 : Int) (a1 : Int) (h0 : (a1 = 1 ∧ 0 ≤ a0 ∧ a0 ≤ 29) ∨ (a1 = 0 ∧ (a0 < 0 ∨ 29 < a0))) (h1 : ¬ (a1 = 0)) : 0 ≤ a0 ∧ a0 < 30 := by omega
theorem z_X11_rekey_5 (a0 : Int) (a1 : Int) (h0 : (a1 = 1 ∧ 0 ≤ a0 ∧ a0 ≤ 29) ∨ (a1 = 0 ∧ (a0 < 0 ∨ 29 < a0))) (h1 : a1 ≠ 0) : 0 ≤ a0 ∧ a0 < 30 := by omega
theorem z_X11_rekey_6 (a0 : Int) (h0 : 0 ≤ a0 ∧ a0 ≤ 4) : ¬ (2147483648 - a0 < ((0 : Nat) : Int)) := by omega
theorem z_X11_rekey_7 (a0 : Int) (a1 : Int) (a2 : Int) (h0 : 0 ≤ a0 ∧ a0 < 3) (h1 : 0 ≤ a1 ∧ a1 < 30) (h2 : 0 ≤ a0 ∧ a0 ≤ 2 ∧ 0 ≤ a1 ∧ a1 ≤ 29 → a2 = 4 * (30 * a0 + a1)) : 0 ≤ a2 ∧ a2 < ((360 : Nat) : Int) := by omega
theorem z_X11_rekey_8 (a0 : Int) (h0 : 0 ≤ a0 ∧ a0 ≤ 12) : ¬ (2147483648 - a0 < ((0 : Nat) : Int)) := by omega
theorem z_X11_rekey_9 (a0 : Int) (a1 : Int) (a2 : Int) (h0 : a0 = -2147483648 ∧ a1 = -2147483648 ∧ a2 = 0) : 0 ≤ a2 ∧ a2 ≤ 24 := by omega
theorem z_X11_rekey_12 (a0 : Int) (h0 : 0 ≤ a0 ∧ a0 ≤ 30) : ¬ (2147483648 - a0 < ((0 : Nat) : Int)) := by omega
theorem z_X11_rekey_13 (a0 : Int) (a1 : Int) (h0 : 0 ≤ a0 ∧ a0 ≤ 12) (h1 : a1 = (a0 + 1) ∨ (a0 + 1) < -2147483648 ∨ 2147483648 ≤ (a0 + 1)) : a1 = (a0 + 1) := by omega
theorem z_X11_rekey_14 (a0 : Int) (h0 : 0 ≤ a0 ∧ a0 ≤ 12) (h1 : ¬ ((12 : Int) ≤ a0)) : 0 ≤ (a0 + 1) ∧ (a0 + 1) ≤ 12 := by omega
theorem z_X11_rekey_15 (a0 : Int) (h0 : 0 ≤ a0 ∧ a0 ≤ 12) : (0 : Int) ≤ (a0 + 1) := by omega
theorem z_X11_rekey_16 (a0 : Int) (a1 : Nat) (h0 : 2147483648 - a0 < ((a1 + 1 : Nat) : Int)) : 2147483648 - (a0 + 1) < ((a1 : Nat) : Int) := by omega
theorem z_X11_rekey_21 (a0 : Int) (h0 : 0 ≤ a0 ∧ a0 ≤ 12) (h1 : ¬ ((12 : Int) ≤ a0)) : 0 ≤ a0 ∧ a0 ≤ 11 := by omega
theorem z_X11_rekey_23 (a0 : Int) (a1 : Int) (a2 : Int) (a3 : Int) (h0 : 0 ≤ a0 ∧ a0 ≤ 30) (h1 : ¬ ((30 : Int) ≤ a0)) (h2 : (-1 ≤ a1 ∧ a1 ≤ 5) ∧ (0 ≤ a2 ∧ a2 ≤ 2) ∧ (0 ≤ a3 ∧ a3 ≤ 2)) : 0 ≤ a2 ∧ a2 < 3 ∧ 0 ≤ a0 ∧ a0 < 30 ∧ 0 ≤ a3 ∧ a3 < 3 := by omega
theorem z_X11_rekey_24 (a0 : Int) (a1 : Int) (a2 : Int) (a3 : Int) (a4 : Int) (h0 : 0 ≤ a0 ∧ a0 ≤ 30) (h1 : ¬ ((30 : Int) ≤ a0)) (h2 : (-1 ≤ a2 ∧ a2 ≤ 5) ∧ (0 ≤ a3 ∧ a3 ≤ 2) ∧ (0 ≤ a4 ∧ a4 ≤ 2)) (h3 : 0 ≤ a3 ∧ a3 ≤ 2 ∧ 0 ≤ a0 ∧ a0 ≤ 29 → a1 = 4 * (30 * a3 + a0)) : 0 ≤ a1 ∧ a1 < ((360 : Nat) : Int) := by omega
theorem z_X11_rekey_25 (a0 : Int) (a1 : Int) (a2 : Int) (a3 : Int) (a4 : Int) (h0 : 0 ≤ a0 ∧ a0 ≤ 30) (h1 : ¬ ((30 : Int) ≤ a0)) (h2 : (-1 ≤ a2 ∧ a2 ≤ 5) ∧ (0 ≤ a3 ∧ a3 ≤ 2) ∧ (0 ≤ a4 ∧ a4 ≤ 2)) (h3 : 0 ≤ a3 ∧ a3 ≤ 2 ∧ 0 ≤ a0 ∧ a0 ≤ 29 → a1 = 4 * (30 * a3 + a0)) : a1 = 0 + 4 * (30 * a3 + a0) := by omega
theorem z_X11_rekey_26 (a0 : Int) (a1 : Int) (h0 : 0 ≤ a0 ∧ a0 ≤ 30) (h1 : a1 = (a0 + 1) ∨ (a0 + 1) < -2147483648 ∨ 2147483648 ≤ (a0 + 1)) : a1 = (a0 + 1) := by omega
theorem z_X11_rekey_27 (a0 : Int) (h0 : 0 ≤ a0 ∧ a0 ≤ 30) (h1 : ¬ ((30 : Int) ≤ a0)) : 0 ≤ (a0 + 1) ∧ (a0 + 1) ≤ 30 := by omega
theorem z_X11_rekey_28 (a0 : Int) (a1 : Int) (a2 : Int) (h0 : (a1 = 1 ∧ 0 < a2) ∨ (a1 = 0 ∧ ¬ (0 < a2))) (h1 : ¬ (a1 = 0)) : (a0 + 1) = 0 ∨ 0 < a2 := by omega
theorem z_X11_rekey_29 (a0 : Int) (h0 : 0 ≤ a0 ∧ a0 ≤ 30) : (0 : Int) ≤ (a0 + 1) := by omega
theorem z_X11_rekey_32 (a0 : Int) (a1 : Int) (a2 : Int) (a3 : Int) (a4 : Int) (a5 : Int) (a6 : Int) (h0 : 0 ≤ a0 ∧ a0 ≤ 30) (h1 : ¬ ((30 : Int) ≤ a0)) (h2 : (-1 ≤ a4 ∧ a4 ≤ 5) ∧ (0 ≤ a5 ∧ a5 ≤ 2) ∧ (0 ≤ a6 ∧ a6 ≤ 2)) (h3 : 0 ≤ a5 ∧ a5 ≤ 2 ∧ 0 ≤ a0 ∧ a0 ≤ 29 → a1 = 4 * (30 * a5 + a0)) (h4 : a2 = a1 + (1 : Int) ∨ a1 + (1 : Int) < -2147483648 ∨ 2147483648 ≤ a1 + (1 : Int)) (h5 : a3 = a2 + a6 ∨ a2 + a6 < -2147483648 ∨ 2147483648 ≤ a2 + a6) : 0 ≤ a3 ∧ a3 < ((360 : Nat) : Int) := by omega
theorem z_X11_rekey_33 (a0 : Int) (a1 : Int) (a2 : Int) (a3 : Int) (a4 : Int) (a5 : Int) (a6 : Int) (h0 : 0 ≤ a0 ∧ a0 ≤ 30) (h1 : ¬ ((30 : Int) ≤ a0)) (h2 : (-1 ≤ a4 ∧ a4 ≤ 5) ∧ (0 ≤ a5 ∧ a5 ≤ 2) ∧ (0 ≤ a6 ∧ a6 ≤ 2)) (h3 : 0 ≤ a5 ∧ a5 ≤ 2 ∧ 0 ≤ a0 ∧ a0 ≤ 29 → a1 = 4 * (30 * a5 + a0)) (h4 : a2 = a1 + (1 : Int) ∨ a1 + (1 : Int) < -2147483648 ∨ 2147483648 ≤ a1 + (1 : Int)) (h5 : a3 = a2 + a6 ∨ a2 + a6 < -2147483648 ∨ 2147483648 ≤ a2 + a6) : a3 = 0 + 4 * (30 * a5 + a0) + 1 + a6 := by omega
theorem z_X11_rekey_53 (a0 : Int) : (0 : Int) = 0 ∨ 0 < a0 := by omega
theorem z_X11_rekey_54 (a0 : Int) (a1 : Int) (a2 : Int) (a3 : Int) (a4 : Int) (h0 : 0 ≤ a1 ∧ a1 < 3) (h1 : 0 ≤ a2 ∧ a2 < 30) (h2 : 0 ≤ a0 ∧ a0 ≤ 4) (h3 : ¬ ((4 : Int) ≤ a0)) (h4 : 0 ≤ a1 ∧ a1 ≤ 2 ∧ 0 ≤ a2 ∧ a2 ≤ 29 → a4 = 4 * (30 * a1 + a2)) (h5 : a3 = a4 + a0 ∨ a4 + a0 < -2147483648 ∨ 2147483648 ≤ a4 + a0) : 0 ≤ a3 ∧ a3 < ((360 : Nat) : Int) := by omega
theorem z_X11_rekey_55 (a0 : Int) (a1 : Int) (a2 : Int) (a3 : Int) (a4 : Int) (h0 : 0 ≤ a1 ∧ a1 < 3) (h1 : 0 ≤ a2 ∧ a2 < 30) (h2 : 0 ≤ a0 ∧ a0 ≤ 4) (h3 : 0 ≤ a1 ∧ a1 ≤ 2 ∧ 0 ≤ a2 ∧ a2 ≤ 29 → a4 = 4 * (30 * a1 + a2)) (h4 : a3 = a4 + a0 ∨ a4 + a0 < -2147483648 ∨ 2147483648 ≤ a4 + a0) : a3 = 0 + 4 * (30 * a1 + a2) + a0 := by omega
theorem z_X11_rekey_56 (a0 : Int) (a1 : Int) (a2 : Int) (a3 : Int) (a4 : Int) (h0 : 0 ≤ a1 ∧ a1 < 3) (h1 : 0 ≤ a2 ∧ a2 < 30) (h2 : 0 ≤ a0 ∧ a0 ≤ 4) (h3 : ¬ ((4 : Int) ≤ a0)) (h4 : 0 ≤ a1 ∧ a1 ≤ 2 ∧ 0 ≤ a2 ∧ a2 ≤ 29 → a3 = 4 * (30 * a1 + a2)) (h5 : a4 = a3 + a0 ∨ a3 + a0 < -2147483648 ∨ 2147483648 ≤ a3 + a0) : 0 ≤ a4 ∧ a4 < ((360 : Nat) : Int) := by omega
theorem z_X11_rekey_57 (a0 : Int) (a1 : Int) (h0 : 0 ≤ a0 ∧ a0 ≤ 4) (h1 : a1 = (a0 + 1) ∨ (a0 + 1) < -2147483648 ∨ 2147483648 ≤ (a0 + 1)) : a1 = (a0 + 1) := by omega
theorem z_X11_rekey_58 (a0 : Int) (h0 : 0 ≤ a0 ∧ a0 ≤ 4) (h1 : ¬ ((4 : Int) ≤ a0)) : 0 ≤ (a0 + 1) ∧ (a0 + 1) ≤ 4 := by omega
theorem z_X11_rekey_59 (a0 : Int) (h0 : 0 ≤ a0 ∧ a0 ≤ 4) : (0 : Int) ≤ (a0 + 1) := by omega
abbrev rm_X11_rekey : Room := { frames := 8, cells := 0, slots := 0, locals := 186 }
set_option maxHeartbeats 4000000 in
set_option maxRecDepth 100000 in
theorem c_X11_rekey (l : Launch) (E : XE) (K : Nat → Nat) (F : Nat → Nat → Nat) (G : XG) (a : Nat) (p0 : Int32) (p1 : Int32) (p2 : Int32) (ha : K a = 13) (am : 0 ≤ ((G.1 a 43).toInt) ∧ ((G.1 a 43).toInt) ≤ 2388) (hR : RV (G.2.1 (F a 10))) (hM : RM (G.2.1 (F a 1)) (0)) (hB : RM (G.2.1 (F a 2)) 0) : Met l yX11_rekey (xw yX11_rekey cX11_rekey 7 (some .int)) rm_X11_rekey (va_Pc [.ref a, .int p0, .int p1, .int p2] (XP E K F G)) (XQ E (fun v (u : XG) => ∃ r : Int32, v = .int r ∧ XFr [(a, 16), (a, 19), (a, 20), (a, 21), (a, 23), (a, 45), (a, 46), (a, 43), (a, 44), (a, 0)] [F a 15, F a 17, F a 18, F a 1, F a 8, F a 22, F a 11, F a 13, F a 9, F a 41, F a 42, F a 4, F a 12] [] G u ∧ ((0 ≤ ((u.1 a 23).toInt) ∧ ((u.1 a 23).toInt) ≤ 24) ∧ (0 ≤ ((u.1 a 43).toInt) ∧ ((u.1 a 43).toInt) ≤ 2388)) ∧ ((¬ ((0 ≤ p0.toInt ∧ p0.toInt < 3) ∧ (0 ≤ p1.toInt ∧ p1.toInt < 30) ∧ (0 ≤ p2.toInt ∧ p2.toInt < 30)) ∧ r.toInt = -1 ∧ mw (u.2.1 (F a 1)) 0 = (mw (G.2.1 (F a 1)) 0)) ∨ (((0 ≤ p0.toInt ∧ p0.toInt < 3) ∧ (0 ≤ p1.toInt ∧ p1.toInt < 30) ∧ (0 ≤ p2.toInt ∧ p2.toInt < 30)) ∧ cel (mw (G.2.1 (F a 1)) 0) p0.toInt p1.toInt 0 = -2000 ∧ r.toInt = -2 ∧ mw (u.2.1 (F a 1)) 0 = (mw (G.2.1 (F a 1)) 0)) ∨ (((0 ≤ p0.toInt ∧ p0.toInt < 3) ∧ (0 ≤ p1.toInt ∧ p1.toInt < 30) ∧ (0 ≤ p2.toInt ∧ p2.toInt < 30)) ∧ cel (mw (G.2.1 (F a 1)) 0) p0.toInt p1.toInt 0 ≠ -2000 ∧ cel (mw (G.2.1 (F a 1)) 0) p0.toInt p2.toInt 0 ≠ -2000 ∧ r.toInt = -4 ∧ mw (u.2.1 (F a 1)) 0 = (mw (G.2.1 (F a 1)) 0)) ∨ (((0 ≤ p0.toInt ∧ p0.toInt < 3) ∧ (0 ≤ p1.toInt ∧ p1.toInt < 30) ∧ (0 ≤ p2.toInt ∧ p2.toInt < 30)) ∧ cel (mw (G.2.1 (F a 1)) 0) p0.toInt p1.toInt 0 ≠ -2000 ∧ cel (mw (G.2.1 (F a 1)) 0) p0.toInt p2.toInt 0 = -2000 ∧ StR ((G.1 a 6).toInt) r.toInt (G.2.1 (F a 10)) (mw (G.2.1 (F a 1)) 0) (mvR (refA (G.2.1 (F a 10))) (refT (G.2.1 (F a 10))) (refC (G.2.1 (F a 10))) p0.toInt p1.toInt p2.toInt (rmv (mw (G.2.1 (F a 1)) 0) p0.toInt p1.toInt p2.toInt) 12) (mw (u.2.1 (F a 1)) 0))) ∧ (RM (u.2.1 (F a 1)) 0)) (fun u H => TW E K F u H)) 0 0 (xA E) := by
  refine x_enter (by decide) (Nat.le_of_ble_eq_true rfl) ?_
  intro p e s m args below meth c Q S hr hlk hnm hQ hP ls hl
  obtain ⟨hz, hK, hT⟩ := hP
  obtain ⟨hx, hb, -, -, -⟩ := id S
  obtain ⟨H, hT, hS, hgo⟩ : ∃ H : Heap, TW E K F G H ∧ va_S (xA E) s.heap H [] ∧ H = s.heap := ⟨_, hT, va_S.rf, rfl⟩
  rw [← hgo]
  have hl : lv_has ls 7 [(0, .ref a), (1, .int p0), (2, .int p1), (3, .int p2)] := hl
  obtain ⟨hk9999, hj9999⟩ := fkX11_15 hT ha
  obtain ⟨hk9999a, hj9999a⟩ := fkX11_17 hT ha
  obtain ⟨hk9999b, hj9999b⟩ := fkX11_18 hT ha
  obtain ⟨hk9999c, hj9999c⟩ := fkX11_1 hT ha
  obtain ⟨hk9999d, hj9999d⟩ := fkX11_8 hT ha
  obtain ⟨hk9999e, hj9999e⟩ := fkX11_22 hT ha
  obtain ⟨hk9999f, hj9999f⟩ := fkX11_11 hT ha
  obtain ⟨hk9999g, hj9999g⟩ := fkX11_13 hT ha
  obtain ⟨hk9999h, hj9999h⟩ := fkX11_9 hT ha
  obtain ⟨hk9999i, hj9999i⟩ := fkX11_41 hT ha
  obtain ⟨hk9999j, hj9999j⟩ := fkX11_42 hT ha
  obtain ⟨hk9999k, hj9999k⟩ := fkX11_4 hT ha
  obtain ⟨hk9999l, hj9999l⟩ := fkX11_12 hT ha
  obtain ⟨hk9999m, hj9999m⟩ := fkX11_10 hT ha
  obtain ⟨hk9999n, hj9999n⟩ := fkX11_2 hT ha
  refine lv_aload_n hx hb dX11_rekey_0 rfl (lv_at hl 0 rfl) ?_
  refine lv_iconst (v := 0) hx hb dX11_rekey_1 (by decide) ?_
  refine pX11_0 (v := 0) S hK hT hS ha kf_X11_134 dX11_rekey_2 (fun H locs hT hS => ?_)
  obtain ⟨G2, hG2⟩ : ∃ GG : XG, GG = dput G a 0 0 := ⟨_, rfl⟩
  rw [← hG2] at hT
  refine lv_aload_n hx hb dX11_rekey_5 rfl (lv_at hl 0 rfl) ?_
  refine x_cv0 (x_runV (b := a) (As := []) (rest := []) S (c_X11_nothing l E K F G2 a ha) mv_X11_nothing km_X11_231 rfl rfl ⟨Nat.le_of_ble_eq_true rfl, Nat.le_of_ble_eq_true rfl⟩ (rc_13 hK hT ha) hK (fun _ => XP.blind) (fun U hU hW => XP.at hK hz hS hT hU hW) rfl hl.1 (Nat.le_of_ble_eq_true rfl) dX11_rekey_6 ⟨Nat.le_of_ble_eq_true rfl, Nat.le_of_ble_eq_true rfl⟩) hS ?_
  rintro G6 H locs ⟨hF6, t6⟩ hT hS
  have t6 : ((G6.1 a 20).toInt) = -2147483648 ∧ ((G6.1 a 21).toInt) = -2147483648 ∧ ((G6.1 a 23).toInt) = 0 := t6
  refine lv_iload_n hx hb dX11_rekey_9 rfl (lv_at hl 1 rfl) ?_
  refine x_clp (x_runS (As := [.int p0]) (rest := []) S (c_X11_isTable l E K F G6 H p0) ms_X11_isTable km_X11_149 rfl rfl ⟨Nat.le_of_ble_eq_true rfl, Nat.le_of_ble_eq_true rfl⟩ hK (fun _ => XPh.blind) (fun U hU hW => XPh.at hK hz hS hT hU hW) rfl hl.1 (Nat.le_of_ble_eq_true rfl) dX11_rekey_10 ⟨Nat.le_of_ble_eq_true rfl, Nat.le_of_ble_eq_true rfl⟩) hS ?_
  rintro _ _ locs ⟨x10, rfl, b10, t10⟩ hS
  have t10 : (x10.toInt = 1 ∧ 0 ≤ p0.toInt ∧ p0.toInt ≤ 2) ∨ (x10.toInt = 0 ∧ (p0.toInt < 0 ∨ 2 < p0.toInt)) := t10
  refine xi_zeq (tgt := 30) hx hb (rfl : Int32.toInt x10 = x10.toInt) dX11_rekey_13 (by decide) (fun c13 => ?_) (fun c13 => ?_)
  · refine lv_aload_n hx hb dX11_rekey_30 rfl (lv_at hl 0 rfl) ?_
    refine lv_iconst (v := (-1)) hx hb dX11_rekey_31 (by decide) ?_
    refine x_cl0 (x_runV (b := a) (As := [.int (-1)]) (rest := []) S (c_X11_refuses l E K F G6 a (-1) ha) mv_X11_refuses km_X11_325 rfl rfl ⟨Nat.le_of_ble_eq_true rfl, Nat.le_of_ble_eq_true rfl⟩ (rc_13 hK hT ha) hK (fun _ => XP.blind) (fun U hU hW => XP.at hK hz hS hT hU hW) rfl hl.1 (Nat.le_of_ble_eq_true rfl) dX11_rekey_32 ⟨Nat.le_of_ble_eq_true rfl, Nat.le_of_ble_eq_true rfl⟩) hS ?_
    rintro _ G32 H locs ⟨x32, rfl, hF32, t32⟩ hT hS
    have t32 : x32.toInt = (-1 : Int) := by rw [((by decide) : Int32.toInt (-1) = (-1 : Int))] at t32; exact t32
    exact x_ri hx hb hr hlk hQ (Nat.le_of_ble_eq_true rfl) (Nat.le_of_ble_eq_true rfl) hS dX11_rekey_35 G32 ⟨_, rfl, (XFr.call (XFr.call (by rw [hG2]; exact XFr.dput XFr.rf (List.mem_of_getElem? (i := 9) rfl)) hF6 (xm1 2 rfl (xm1 3 rfl (xm1 4 rfl xm0))) xm0 xm0) hF32 xm0 (xm1 4 rfl xm0) xm0), (by rw [(show (G32.1 a 23).toInt = ((G6.1 a 23).toInt) from (congrArg Int32.toInt (hF32.1 _ _ xn0)).trans (rfl : Int32.toInt (G6.1 a 23) = ((G6.1 a 23).toInt))), (show (G32.1 a 43).toInt = ((G.1 a 43).toInt) from (congrArg Int32.toInt ((hF32.1 _ _ xn0).trans ((hF6.1 _ _ (xnj (by decide) (xnj (by decide) (xnj (by decide) xn0)))).trans (ld_j hG2 (by decide))))).trans (rfl : Int32.toInt (G.1 a 43) = ((G.1 a 43).toInt)))] <;> exact (z_X11_rekey_1 ((G.1 a 43).toInt) ((G6.1 a 20).toInt) ((G6.1 a 21).toInt) ((G6.1 a 23).toInt) am t6)), (by rw [(t32 : Int32.toInt x32 = (-1 : Int))] <;> exact (v_X11_rekey_35_1 (F := F) x10 p0 G32 a G p1 p2 t10 c13 ((hF32.2.1 _ (xn1 (xne_k hk9999c hk9999d (by decide)) xn0)).trans ((hF6.2.1 _ xn0).trans (ld_c hG2))))), (v_X11_rekey_35_2 (F := F) a G G32 hM ((hF32.2.1 _ (xn1 (xne_k hk9999c hk9999d (by decide)) xn0)).trans ((hF6.2.1 _ xn0).trans (ld_c hG2))))⟩ hT
  · refine lv_iload_n hx hb dX11_rekey_16 rfl (lv_at hl 2 rfl) ?_
    refine x_clp (x_runS (As := [.int p1]) (rest := []) S (c_X11_isKey l E K F G6 H p1) ms_X11_isKey km_X11_153 rfl rfl ⟨Nat.le_of_ble_eq_true rfl, Nat.le_of_ble_eq_true rfl⟩ hK (fun _ => XPh.blind) (fun U hU hW => XPh.at hK hz hS hT hU hW) rfl hl.1 (Nat.le_of_ble_eq_true rfl) dX11_rekey_17 ⟨Nat.le_of_ble_eq_true rfl, Nat.le_of_ble_eq_true rfl⟩) hS ?_
    rintro _ _ locs ⟨x17, rfl, b17, t17⟩ hS
    have t17 : (x17.toInt = 1 ∧ 0 ≤ p1.toInt ∧ p1.toInt ≤ 29) ∨ (x17.toInt = 0 ∧ (p1.toInt < 0 ∨ 29 < p1.toInt)) := t17
    refine xi_zeq (tgt := 30) hx hb (rfl : Int32.toInt x17 = x17.toInt) dX11_rekey_20 (by decide) (fun c20 => ?_) (fun c20 => ?_)
    · refine lv_aload_n hx hb dX11_rekey_30 rfl (lv_at hl 0 rfl) ?_
      refine lv_iconst (v := (-1)) hx hb dX11_rekey_31 (by decide) ?_
      refine x_cl0 (x_runV (b := a) (As := [.int (-1)]) (rest := []) S (c_X11_refuses l E K F G6 a (-1) ha) mv_X11_refuses km_X11_325 rfl rfl ⟨Nat.le_of_ble_eq_true rfl, Nat.le_of_ble_eq_true rfl⟩ (rc_13 hK hT ha) hK (fun _ => XP.blind) (fun U hU hW => XP.at hK hz hS hT hU hW) rfl hl.1 (Nat.le_of_ble_eq_true rfl) dX11_rekey_32 ⟨Nat.le_of_ble_eq_true rfl, Nat.le_of_ble_eq_true rfl⟩) hS ?_
      rintro _ G32 H locs ⟨x32, rfl, hF32, t32⟩ hT hS
      have t32 : x32.toInt = (-1 : Int) := by rw [((by decide) : Int32.toInt (-1) = (-1 : Int))] at t32; exact t32
      exact x_ri hx hb hr hlk hQ (Nat.le_of_ble_eq_true rfl) (Nat.le_of_ble_eq_true rfl) hS dX11_rekey_35 G32 ⟨_, rfl, (XFr.call (XFr.call (by rw [hG2]; exact XFr.dput XFr.rf (List.mem_of_getElem? (i := 9) rfl)) hF6 (xm1 2 rfl (xm1 3 rfl (xm1 4 rfl xm0))) xm0 xm0) hF32 xm0 (xm1 4 rfl xm0) xm0), (by rw [(show (G32.1 a 23).toInt = ((G6.1 a 23).toInt) from (congrArg Int32.toInt (hF32.1 _ _ xn0)).trans (rfl : Int32.toInt (G6.1 a 23) = ((G6.1 a 23).toInt))), (show (G32.1 a 43).toInt = ((G.1 a 43).toInt) from (congrArg Int32.toInt ((hF32.1 _ _ xn0).trans ((hF6.1 _ _ (xnj (by decide) (xnj (by decide) (xnj (by decide) xn0)))).trans (ld_j hG2 (by decide))))).trans (rfl : Int32.toInt (G.1 a 43) = ((G.1 a 43).toInt)))] <;> exact (z_X11_rekey_1 ((G.1 a 43).toInt) ((G6.1 a 20).toInt) ((G6.1 a 21).toInt) ((G6.1 a 23).toInt) am t6)), (by rw [(t32 : Int32.toInt x32 = (-1 : Int))] <;> exact (v_X11_rekey_35_3 (F := F) x17 p1 G32 a G p0 p2 t17 c20 ((hF32.2.1 _ (xn1 (xne_k hk9999c hk9999d (by decide)) xn0)).trans ((hF6.2.1 _ xn0).trans (ld_c hG2))))), (v_X11_rekey_35_4 (F := F) a G G32 hM ((hF32.2.1 _ (xn1 (xne_k hk9999c hk9999d (by decide)) xn0)).trans ((hF6.2.1 _ xn0).trans (ld_c hG2))))⟩ hT
    · refine lv_iload_n hx hb dX11_rekey_23 rfl (lv_at hl 3 rfl) ?_
      refine x_clp (x_runS (As := [.int p2]) (rest := []) S (c_X11_isKey l E K F G6 H p2) ms_X11_isKey km_X11_153 rfl rfl ⟨Nat.le_of_ble_eq_true rfl, Nat.le_of_ble_eq_true rfl⟩ hK (fun _ => XPh.blind) (fun U hU hW => XPh.at hK hz hS hT hU hW) rfl hl.1 (Nat.le_of_ble_eq_true rfl) dX11_rekey_24 ⟨Nat.le_of_ble_eq_true rfl, Nat.le_of_ble_eq_true rfl⟩) hS ?_
      rintro _ _ locs ⟨x24, rfl, b24, t24⟩ hS
      have t24 : (x24.toInt = 1 ∧ 0 ≤ p2.toInt ∧ p2.toInt ≤ 29) ∨ (x24.toInt = 0 ∧ (p2.toInt < 0 ∨ 29 < p2.toInt)) := t24
      refine xi_zne (tgt := 36) hx hb (rfl : Int32.toInt x24 = x24.toInt) dX11_rekey_27 (by decide) (fun c27 => ?_) (fun c27 => ?_)
      · have z36 : 0 ≤ p0.toInt ∧ p0.toInt < 3 := (z_X11_rekey_3 p0.toInt x10.toInt t10 c13)
        have z36a : 0 ≤ p1.toInt ∧ p1.toInt < 30 := (z_X11_rekey_4 p1.toInt x17.toInt t17 c20)
        have z36b : 0 ≤ p2.toInt ∧ p2.toInt < 30 := (z_X11_rekey_5 p2.toInt x24.toInt t24 c27)
        refine lv_aload_n hx hb dX11_rekey_36 rfl (lv_at hl 0 rfl) ?_
        refine lv_iload_n hx hb dX11_rekey_37 rfl (lv_at hl 1 rfl) ?_
        refine lv_iload_n hx hb dX11_rekey_38 rfl (lv_at hl 2 rfl) ?_
        refine x_clp (x_runV (b := a) (As := [.int p0, .int p1]) (rest := []) S (c_X11_isRow l E K F G6 H a p0 p1 ha (v_X11_rekey_39_5 (F := F) a G G6 hM hB ((hF6.2.1 _ xn0).trans (ld_c hG2)))) mv_X11_isRow km_X11_346 rfl rfl ⟨Nat.le_of_ble_eq_true rfl, Nat.le_of_ble_eq_true rfl⟩ (rc_13 hK hT ha) hK (fun _ => XPh.blind) (fun U hU hW => XPh.at hK hz hS hT hU hW) rfl hl.1 (Nat.le_of_ble_eq_true rfl) dX11_rekey_39 ⟨Nat.le_of_ble_eq_true rfl, Nat.le_of_ble_eq_true rfl⟩) hS ?_
        rintro _ _ locs ⟨x39, rfl, b39, t39⟩ hS
        have t39 : (x39.toInt = 1 ∧ (cel (mw (G.2.1 (F a 1)) 0) (p0.toInt) (p1.toInt) 0) ≠ -2000) ∨ (x39.toInt = 0 ∧ (cel (mw (G.2.1 (F a 1)) 0) (p0.toInt) (p1.toInt) 0) = -2000) := by rw [(show G6.2.1 (F a 1) = G.2.1 (F a 1) from ((hF6.2.1 _ xn0).trans (ld_c hG2)))] at t39; exact t39
        refine xi_zne (tgt := 52) hx hb (rfl : Int32.toInt x39 = x39.toInt) dX11_rekey_42 (by decide) (fun c42 => ?_) (fun c42 => ?_)
        · refine lv_aload_n hx hb dX11_rekey_52 rfl (lv_at hl 0 rfl) ?_
          refine lv_iload_n hx hb dX11_rekey_53 rfl (lv_at hl 1 rfl) ?_
          refine lv_iload_n hx hb dX11_rekey_54 rfl (lv_at hl 3 rfl) ?_
          refine x_clp (x_runV (b := a) (As := [.int p0, .int p2]) (rest := []) S (c_X11_isRow l E K F G6 H a p0 p2 ha (v_X11_rekey_55_6 (F := F) a G G6 hM hB ((hF6.2.1 _ xn0).trans (ld_c hG2)))) mv_X11_isRow km_X11_346 rfl rfl ⟨Nat.le_of_ble_eq_true rfl, Nat.le_of_ble_eq_true rfl⟩ (rc_13 hK hT ha) hK (fun _ => XPh.blind) (fun U hU hW => XPh.at hK hz hS hT hU hW) rfl hl.1 (Nat.le_of_ble_eq_true rfl) dX11_rekey_55 ⟨Nat.le_of_ble_eq_true rfl, Nat.le_of_ble_eq_true rfl⟩) hS ?_
          rintro _ _ locs ⟨x55, rfl, b55, t55⟩ hS
          have t55 : (x55.toInt = 1 ∧ (cel (mw (G.2.1 (F a 1)) 0) (p0.toInt) (p2.toInt) 0) ≠ -2000) ∨ (x55.toInt = 0 ∧ (cel (mw (G.2.1 (F a 1)) 0) (p0.toInt) (p2.toInt) 0) = -2000) := by rw [(show G6.2.1 (F a 1) = G.2.1 (F a 1) from ((hF6.2.1 _ xn0).trans (ld_c hG2)))] at t55; exact t55
          refine xi_zeq (tgt := 68) hx hb (rfl : Int32.toInt x55 = x55.toInt) dX11_rekey_58 (by decide) (fun c58 => ?_) (fun c58 => ?_)
          · have z68 : p1.toInt = p2.toInt → (cel (mw (G.2.1 (F a 1)) 0) (p0.toInt) (p1.toInt) 0) = (cel (mw (G.2.1 (F a 1)) 0) (p0.toInt) (p2.toInt) 0) := fun h9 => by rw [h9]
            refine lv_aload_n hx hb dX11_rekey_68 rfl (lv_at hl 0 rfl) ?_
            refine x_cv0 (x_runV (b := a) (As := []) (rest := []) S (c_X11_start l E K F G6 a ha (v_X11_rekey_69_7 (F := F) a G G6 hR ((hF6.2.1 _ xn0).trans (ld_c hG2))) (v_X11_rekey_69_8 (F := F) a G G6 hM hB ((hF6.2.1 _ xn0).trans (ld_c hG2)))) mv_X11_start km_X11_350 rfl rfl ⟨Nat.le_of_ble_eq_true rfl, Nat.le_of_ble_eq_true rfl⟩ (rc_13 hK hT ha) hK (fun _ => XP.blind) (fun U hU hW => XP.at hK hz hS hT hU hW) rfl hl.1 (Nat.le_of_ble_eq_true rfl) dX11_rekey_69 ⟨Nat.le_of_ble_eq_true rfl, Nat.le_of_ble_eq_true rfl⟩) hS ?_
            rintro G69 H locs ⟨hF69, oq69, oq69a, oq69b⟩ hT hS
            have oq69 : mw (G69.2.1 (F a 4)) 0 = mw (G.2.1 (F a 1)) 0 := by simp only [(show G6.2.1 (F a 1) = G.2.1 (F a 1) from ((hF6.2.1 _ xn0).trans (ld_c hG2)))] at oq69; exact oq69
            have oq69b : LSt (G.2.1 (F a 10)) (G69.2.1 (F a 12)) (mw (G.2.1 (F a 1)) 0) 12 := by simp only [(show G6.2.1 (F a 10) = G.2.1 (F a 10) from ((hF6.2.1 _ xn0).trans (ld_c hG2))), (show G6.2.1 (F a 1) = G.2.1 (F a 1) from ((hF6.2.1 _ xn0).trans (ld_c hG2)))] at oq69b; exact oq69b
            refine lv_iconst (v := 0) hx hb dX11_rekey_72 (by decide) ?_
            refine lv_istore (lv' := [(4, .int 0), (0, .ref a), (1, .int p0), (2, .int p1), (3, .int p2)]) hx hb dX11_rekey_73 hl (by decide) rfl (fun ls hl => ?_)
            have L75 : ∀ (N75 : Nat) (l4_75 : Int32) (G_75 : XG) (H : Heap) (locs : List Loc) (ls : Array Slot), XFr [] [F a 1] [] G69 G_75 → MVp (G.2.1 (F a 1)) (G_75.2.1 (F a 1)) (0 + 4 * (30 * p0.toInt + p1.toInt)) (0 + 4 * (30 * p0.toInt + p2.toInt)) (l4_75.toInt) → 0 ≤ l4_75.toInt ∧ l4_75.toInt ≤ 4 → (0 : Int) ≤ l4_75.toInt → 2147483648 - l4_75.toInt < ((N75 : Nat) : Int) → TW E K F G_75 H → va_S (xA E) s.heap H locs → lv_has ls 7 [(0, .ref a), (1, .int p0), (2, .int p1), (3, .int p2), (4, .int l4_75)] → W p l e rm_X11_rekey s m args below meth c H locs 0 0 Q (F0 m 75 ls []) := by
              intro N75
              induction N75 with
              | zero =>
                intro l4_75 G_75 H locs ls hF_75 mp I75_0 I75_1 hm75
                exact absurd hm75 (z_X11_rekey_6 l4_75.toInt I75_0)
              | succ N75 ih75 =>
                intro l4_75 G_75 H locs ls hF_75 mp I75_0 I75_1 hm75 hT hS hl
                refine lv_iload hx hb dX11_rekey_75 (lv_at hl 4 rfl) ?_
                refine lv_iconst (v := 4) hx hb dX11_rekey_77 (by decide) ?_
                refine xi_cge (tgt := 113) hx hb (rfl : Int32.toInt l4_75 = l4_75.toInt) ((by decide) : Int32.toInt 4 = (4 : Int)) dX11_rekey_78 (by decide) (fun c78 => ?_) (fun c78 => ?_)
                · refine lv_aload_n hx hb dX11_rekey_113 rfl (lv_at hl 0 rfl) ?_
                  refine gX11_1 S hK hT ha kf_X11_9 dX11_rekey_114 (fun _ _ => ?_)
                  refine lv_iload_n hx hb dX11_rekey_117 rfl (lv_at hl 1 rfl) ?_
                  refine lv_iload_n hx hb dX11_rekey_118 rfl (lv_at hl 2 rfl) ?_
                  refine x_clp (x_runS (As := [.int p0, .int p1]) (rest := [.ref (F a 1)]) S (c_X11_at l E K F G_75 H p0 p1) ms_X11_at km_X11_156 rfl rfl ⟨Nat.le_of_ble_eq_true rfl, Nat.le_of_ble_eq_true rfl⟩ hK (fun _ => XPh.blind) (fun U hU hW => XPh.at hK hz hS hT hU hW) rfl hl.1 (Nat.le_of_ble_eq_true rfl) dX11_rekey_119 ⟨Nat.le_of_ble_eq_true rfl, Nat.le_of_ble_eq_true rfl⟩) hS ?_
                  rintro _ _ locs ⟨x119, rfl, t119⟩ hS
                  have t119 : 0 ≤ p0.toInt ∧ p0.toInt ≤ 2 ∧ 0 ≤ p1.toInt ∧ p1.toInt ≤ 29 → x119.toInt = 4 * (30 * p0.toInt + p1.toInt) := t119
                  refine lv_iconst (v := 0) hx hb dX11_rekey_122 (by decide) ?_
                  refine as_0 (x := 0) S hK hT hS hk9999c ar_30 aw_30 (by decide) (z_X11_rekey_7 p0.toInt p1.toInt x119.toInt z36 z36a t119) dX11_rekey_123 (fun H locs hT hS => ?_)
                  obtain ⟨G123, hG123⟩ : ∃ GG : XG, GG = cput G_75 (F a 1) x119.toNatClampNeg 0 := ⟨_, rfl⟩
                  rw [← hG123] at hT
                  refine lv_iconst (v := 0) hx hb dX11_rekey_124 (by decide) ?_
                  refine lv_istore (lv' := [(4, .int 0), (0, .ref a), (1, .int p0), (2, .int p1), (3, .int p2)]) hx hb dX11_rekey_125 hl (by decide) rfl (fun ls hl => ?_)
                  have L127 : ∀ (N127 : Nat) (l4_127 : Int32) (G_127 : XG) (H : Heap) (locs : List Loc) (ls : Array Slot), XFr [] [F a 1] [] G123 G_127 → mw (G_127.2.1 (F a 1)) 0 = mvR (refA (G.2.1 (F a 10))) (refT (G.2.1 (F a 10))) (refC (G.2.1 (F a 10))) p0.toInt p1.toInt p2.toInt (rmv (mw (G.2.1 (F a 1)) 0) p0.toInt p1.toInt p2.toInt) (Int.toNat (l4_127.toInt)) → RM (G_127.2.1 (F a 1)) 0 → 0 ≤ l4_127.toInt ∧ l4_127.toInt ≤ 12 → (0 : Int) ≤ l4_127.toInt → 2147483648 - l4_127.toInt < ((N127 : Nat) : Int) → TW E K F G_127 H → va_S (xA E) s.heap H locs → lv_has ls 7 [(0, .ref a), (1, .int p0), (2, .int p1), (3, .int p2), (4, .int l4_127)] → W p l e rm_X11_rekey s m args below meth c H locs 0 0 Q (F0 m 127 ls []) := by
                    intro N127
                    induction N127 with
                    | zero =>
                      intro l4_127 G_127 H locs ls hF_127 mv rm I127_0 I127_1 hm127
                      exact absurd hm127 (z_X11_rekey_8 l4_127.toInt I127_0)
                    | succ N127 ih127 =>
                      intro l4_127 G_127 H locs ls hF_127 mv rm I127_0 I127_1 hm127 hT hS hl
                      refine lv_iload hx hb dX11_rekey_127 (lv_at hl 4 rfl) ?_
                      refine lv_bipush (v := 12) hx hb dX11_rekey_129 (by decide) ?_
                      refine xi_cge (tgt := 248) hx hb (rfl : Int32.toInt l4_127 = l4_127.toInt) ((by decide) : Int32.toInt 12 = (12 : Int)) dX11_rekey_131 (by decide) (fun c131 => ?_) (fun c131 => ?_)
                      · refine lv_aload_n hx hb dX11_rekey_248 rfl (lv_at hl 0 rfl) ?_
                        refine x_cl0 (x_runV (b := a) (As := []) (rest := []) S (c_X11_settles l E K F G_127 a (mw (G.2.1 (F a 1)) 0) ha (by rw [(show (G_127.1 a 23).toInt = ((G6.1 a 23).toInt) from (congrArg Int32.toInt ((hF_127.1 _ _ xn0).trans ((lc_d hG123).trans ((hF_75.1 _ _ xn0).trans (hF69.1 _ _ xn0))))).trans (rfl : Int32.toInt (G6.1 a 23) = ((G6.1 a 23).toInt)))] <;> exact (z_X11_rekey_9 ((G6.1 a 20).toInt) ((G6.1 a 21).toInt) ((G6.1 a 23).toInt) t6)) (by rw [(show (G_127.1 a 43).toInt = ((G.1 a 43).toInt) from (congrArg Int32.toInt ((hF_127.1 _ _ xn0).trans ((lc_d hG123).trans ((hF_75.1 _ _ xn0).trans ((hF69.1 _ _ xn0).trans ((hF6.1 _ _ (xnj (by decide) (xnj (by decide) (xnj (by decide) xn0)))).trans (ld_j hG2 (by decide)))))))).trans (rfl : Int32.toInt (G.1 a 43) = ((G.1 a 43).toInt)))] <;> exact (am)) (v_X11_rekey_249_9 (F := F) a G G_127 hR ((hF_127.2.1 _ (xn1 (xne_k hk9999m hk9999c (by decide)) xn0)).trans ((lc_c hG123 (xne_k hk9999m hk9999c (by decide))).trans ((hF_75.2.1 _ (xn1 (xne_k hk9999m hk9999c (by decide)) xn0)).trans ((hF69.2.1 _ (xn1 (xne_k hk9999m hk9999k (by decide)) (xn1 (xne_k hk9999m hk9999l (by decide)) xn0))).trans ((hF6.2.1 _ xn0).trans (ld_c hG2))))))) (v_X11_rekey_249_10 (F := F) a G_127 rm) (v_X11_rekey_249_11 (K := K) (F := F) a G2 G G6 G69 G_75 G123 x119 G_127 p0 p1 p2 l4_75 l4_127 x10 x17 x24 x39 x55 N75 N127 ha hk9999 hj9999 hk9999a hj9999a hk9999b hj9999b hk9999c hj9999c hk9999d hj9999d hk9999e hj9999e hk9999f hj9999f hk9999g hj9999g hk9999h hj9999h hk9999i hj9999i hk9999j hj9999j hk9999k hj9999k hk9999l hj9999l hk9999m hj9999m hk9999n hj9999n hG2 hF6 hF69 hF_75 hG123 hF_127 hR hM hB oq69 oq69a oq69b mp mv rm am t6 t10 c13 t17 c20 t24 c27 z36 z36a z36b t39 c42 t55 c58 z68 I75_0 I75_1 hm75 c78 t119 I127_0 I127_1 hm127 c131 ((hF69.2.1 _ (xn1 (xne_k hk9999c hk9999k (by decide)) (xn1 (xne_k hk9999c hk9999l (by decide)) xn0))).trans ((hF6.2.1 _ xn0).trans (ld_c hG2))) ((hF_127.2.1 _ (xn1 (xne_k hk9999m hk9999c (by decide)) xn0)).trans ((lc_c hG123 (xne_k hk9999m hk9999c (by decide))).trans ((hF_75.2.1 _ (xn1 (xne_k hk9999m hk9999c (by decide)) xn0)).trans ((hF69.2.1 _ (xn1 (xne_k hk9999m hk9999k (by decide)) (xn1 (xne_k hk9999m hk9999l (by decide)) xn0))).trans ((hF6.2.1 _ xn0).trans (ld_c hG2)))))) ((hF_127.2.1 _ (xn1 (xne_k hk9999f hk9999c (by decide)) xn0)).trans ((lc_c hG123 (xne_k hk9999f hk9999c (by decide))).trans ((hF_75.2.1 _ (xn1 (xne_k hk9999f hk9999c (by decide)) xn0)).trans ((hF69.2.1 _ (xn1 (xne_k hk9999f hk9999k (by decide)) (xn1 (xne_j hj9999f hj9999l (by first | decide | omega)) xn0))).trans ((hF6.2.1 _ xn0).trans (ld_c hG2)))))) ((hF_127.2.1 _ (xn1 (xne_k hk9999l hk9999c (by decide)) xn0)).trans ((lc_c hG123 (xne_k hk9999l hk9999c (by decide))).trans (hF_75.2.1 _ (xn1 (xne_k hk9999l hk9999c (by decide)) xn0)))) ((hF_127.2.1 _ (xn1 (xne_k hk9999g hk9999c (by decide)) xn0)).trans ((lc_c hG123 (xne_k hk9999g hk9999c (by decide))).trans ((hF_75.2.1 _ (xn1 (xne_k hk9999g hk9999c (by decide)) xn0)).trans ((hF69.2.1 _ (xn1 (xne_k hk9999g hk9999k (by decide)) (xn1 (xne_j hj9999g hj9999l (by first | decide | omega)) xn0))).trans ((hF6.2.1 _ xn0).trans (ld_c hG2)))))) ((hF_127.2.1 _ (xn1 (xne_k hk9999 hk9999c (by decide)) xn0)).trans ((lc_c hG123 (xne_k hk9999 hk9999c (by decide))).trans ((hF_75.2.1 _ (xn1 (xne_k hk9999 hk9999c (by decide)) xn0)).trans ((hF69.2.1 _ (xn1 (xne_k hk9999 hk9999k (by decide)) (xn1 (xne_k hk9999 hk9999l (by decide)) xn0))).trans ((hF6.2.1 _ xn0).trans (ld_c hG2)))))) ((hF_127.2.1 _ (xn1 (xne_k hk9999a hk9999c (by decide)) xn0)).trans ((lc_c hG123 (xne_k hk9999a hk9999c (by decide))).trans ((hF_75.2.1 _ (xn1 (xne_k hk9999a hk9999c (by decide)) xn0)).trans ((hF69.2.1 _ (xn1 (xne_k hk9999a hk9999k (by decide)) (xn1 (xne_k hk9999a hk9999l (by decide)) xn0))).trans ((hF6.2.1 _ xn0).trans (ld_c hG2)))))) ((hF_127.2.1 _ (xn1 (xne_k hk9999b hk9999c (by decide)) xn0)).trans ((lc_c hG123 (xne_k hk9999b hk9999c (by decide))).trans ((hF_75.2.1 _ (xn1 (xne_k hk9999b hk9999c (by decide)) xn0)).trans ((hF69.2.1 _ (xn1 (xne_k hk9999b hk9999k (by decide)) (xn1 (xne_k hk9999b hk9999l (by decide)) xn0))).trans ((hF6.2.1 _ xn0).trans (ld_c hG2)))))) ((hF_127.2.1 _ (xn1 (xne_k hk9999n hk9999c (by decide)) xn0)).trans ((lc_c hG123 (xne_k hk9999n hk9999c (by decide))).trans ((hF_75.2.1 _ (xn1 (xne_k hk9999n hk9999c (by decide)) xn0)).trans ((hF69.2.1 _ (xn1 (xne_j hj9999n hj9999k (by first | decide | omega)) (xn1 (xne_k hk9999n hk9999l (by decide)) xn0))).trans ((hF6.2.1 _ xn0).trans (ld_c hG2)))))) ((hF_127.2.1 _ (xn1 (xne_k hk9999e hk9999c (by decide)) xn0)).trans ((lc_c hG123 (xne_k hk9999e hk9999c (by decide))).trans ((hF_75.2.1 _ (xn1 (xne_k hk9999e hk9999c (by decide)) xn0)).trans ((hF69.2.1 _ (xn1 (xne_k hk9999e hk9999k (by decide)) (xn1 (xne_k hk9999e hk9999l (by decide)) xn0))).trans ((hF6.2.1 _ xn0).trans (ld_c hG2)))))) ((hF_127.2.1 _ (xn1 (xne_k hk9999k hk9999c (by decide)) xn0)).trans ((lc_c hG123 (xne_k hk9999k hk9999c (by decide))).trans (hF_75.2.1 _ (xn1 (xne_k hk9999k hk9999c (by decide)) xn0)))) ((hF_127.2.1 _ (xn1 (xne_k hk9999i hk9999c (by decide)) xn0)).trans ((lc_c hG123 (xne_k hk9999i hk9999c (by decide))).trans ((hF_75.2.1 _ (xn1 (xne_k hk9999i hk9999c (by decide)) xn0)).trans ((hF69.2.1 _ (xn1 (xne_k hk9999i hk9999k (by decide)) (xn1 (xne_k hk9999i hk9999l (by decide)) xn0))).trans ((hF6.2.1 _ xn0).trans (ld_c hG2)))))) ((hF_127.2.1 _ (xn1 (xne_k hk9999j hk9999c (by decide)) xn0)).trans ((lc_c hG123 (xne_k hk9999j hk9999c (by decide))).trans ((hF_75.2.1 _ (xn1 (xne_k hk9999j hk9999c (by decide)) xn0)).trans ((hF69.2.1 _ (xn1 (xne_k hk9999j hk9999k (by decide)) (xn1 (xne_k hk9999j hk9999l (by decide)) xn0))).trans ((hF6.2.1 _ xn0).trans (ld_c hG2)))))) ((hF_127.2.1 _ (xn1 (xne_k hk9999d hk9999c (by decide)) xn0)).trans ((lc_c hG123 (xne_k hk9999d hk9999c (by decide))).trans ((hF_75.2.1 _ (xn1 (xne_k hk9999d hk9999c (by decide)) xn0)).trans ((hF69.2.1 _ (xn1 (xne_k hk9999d hk9999k (by decide)) (xn1 (xne_k hk9999d hk9999l (by decide)) xn0))).trans ((hF6.2.1 _ xn0).trans (ld_c hG2)))))) ((hF_127.2.1 _ (xn1 (xne_k hk9999h hk9999c (by decide)) xn0)).trans ((lc_c hG123 (xne_k hk9999h hk9999c (by decide))).trans ((hF_75.2.1 _ (xn1 (xne_k hk9999h hk9999c (by decide)) xn0)).trans ((hF69.2.1 _ (xn1 (xne_k hk9999h hk9999k (by decide)) (xn1 (xne_k hk9999h hk9999l (by decide)) xn0))).trans ((hF6.2.1 _ xn0).trans (ld_c hG2)))))) ((hF_127.1 _ _ xn0).trans ((lc_d hG123).trans ((hF_75.1 _ _ xn0).trans ((hF69.1 _ _ xn0).trans ((hF6.1 _ _ (xnj (by decide) (xnj (by decide) (xnj (by decide) xn0)))).trans (ld_at hG2)))))) ((hF_127.1 _ _ xn0).trans ((lc_d hG123).trans ((hF_75.1 _ _ xn0).trans ((hF69.1 _ _ xn0).trans ((hF6.1 _ _ (xnj (by decide) (xnj (by decide) (xnj (by decide) xn0)))).trans (ld_j hG2 (by decide))))))) ((hF_127.1 _ _ xn0).trans ((lc_d hG123).trans ((hF_75.1 _ _ xn0).trans ((hF69.1 _ _ xn0).trans ((hF6.1 _ _ (xnj (by decide) (xnj (by decide) (xnj (by decide) xn0)))).trans (ld_j hG2 (by decide))))))) ((hF_127.1 _ _ xn0).trans ((lc_d hG123).trans ((hF_75.1 _ _ xn0).trans (hF69.1 _ _ xn0)))) ((hF_127.1 _ _ xn0).trans ((lc_d hG123).trans ((hF_75.1 _ _ xn0).trans (hF69.1 _ _ xn0)))) ((hF_127.1 _ _ xn0).trans ((lc_d hG123).trans ((hF_75.1 _ _ xn0).trans (hF69.1 _ _ xn0)))) ((hF_127.1 _ _ xn0).trans ((lc_d hG123).trans ((hF_75.1 _ _ xn0).trans ((hF69.1 _ _ xn0).trans ((hF6.1 _ _ (xnj (by decide) (xnj (by decide) (xnj (by decide) xn0)))).trans (ld_j hG2 (by decide))))))) ((hF_127.1 _ _ xn0).trans ((lc_d hG123).trans ((hF_75.1 _ _ xn0).trans ((hF69.1 _ _ xn0).trans ((hF6.1 _ _ (xnj (by decide) (xnj (by decide) (xnj (by decide) xn0)))).trans (ld_j hG2 (by decide))))))) ((hF_127.1 _ _ xn0).trans ((lc_d hG123).trans ((hF_75.1 _ _ xn0).trans ((hF69.1 _ _ xn0).trans ((hF6.1 _ _ (xnj (by decide) (xnj (by decide) (xnj (by decide) xn0)))).trans (ld_j hG2 (by decide))))))) ((hF_127.1 _ _ xn0).trans ((lc_d hG123).trans ((hF_75.1 _ _ xn0).trans ((hF69.1 _ _ xn0).trans ((hF6.1 _ _ (xnj (by decide) (xnj (by decide) (xnj (by decide) xn0)))).trans (ld_j hG2 (by decide)))))))) (v_X11_rekey_249_12 (F := F) a G G69 G_127 hM hB oq69a rm ((hF_127.2.1 _ (xn1 (xne_k hk9999n hk9999c (by decide)) xn0)).trans ((lc_c hG123 (xne_k hk9999n hk9999c (by decide))).trans ((hF_75.2.1 _ (xn1 (xne_k hk9999n hk9999c (by decide)) xn0)).trans ((hF69.2.1 _ (xn1 (xne_j hj9999n hj9999k (by first | decide | omega)) (xn1 (xne_k hk9999n hk9999l (by decide)) xn0))).trans ((hF6.2.1 _ xn0).trans (ld_c hG2))))))) (v_X11_rekey_249_13 (F := F) a G G69 G_127 oq69b ((hF_127.2.1 _ (xn1 (xne_k hk9999m hk9999c (by decide)) xn0)).trans ((lc_c hG123 (xne_k hk9999m hk9999c (by decide))).trans ((hF_75.2.1 _ (xn1 (xne_k hk9999m hk9999c (by decide)) xn0)).trans ((hF69.2.1 _ (xn1 (xne_k hk9999m hk9999k (by decide)) (xn1 (xne_k hk9999m hk9999l (by decide)) xn0))).trans ((hF6.2.1 _ xn0).trans (ld_c hG2)))))) ((hF_127.2.1 _ (xn1 (xne_k hk9999l hk9999c (by decide)) xn0)).trans ((lc_c hG123 (xne_k hk9999l hk9999c (by decide))).trans (hF_75.2.1 _ (xn1 (xne_k hk9999l hk9999c (by decide)) xn0)))))) mv_X11_settles km_X11_353 rfl rfl ⟨Nat.le_of_ble_eq_true rfl, Nat.le_of_ble_eq_true rfl⟩ (rc_13 hK hT ha) hK (fun _ => XP.blind) (fun U hU hW => XP.at hK hz hS hT hU hW) rfl hl.1 (Nat.le_of_ble_eq_true rfl) dX11_rekey_249 ⟨Nat.le_of_ble_eq_true rfl, Nat.le_of_ble_eq_true rfl⟩) hS ?_
                        rintro _ G249 H locs ⟨x249, rfl, hF249, t249, oq249, oq249a⟩ hT hS
                        have t249 : (0 ≤ ((G249.1 a 23).toInt) ∧ ((G249.1 a 23).toInt) ≤ 24) ∧ (0 ≤ ((G249.1 a 43).toInt) ∧ ((G249.1 a 43).toInt) ≤ 2388) := t249
                        have oq249 : ((ffP (G.2.1 (F a 10)) (mw (G_127.2.1 (F a 1)) 0) (fuO (G.2.1 (F a 10)) (mw (G.2.1 (F a 1)) 0) (mw (G_127.2.1 (F a 1)) 0) 0) ≠ -1 ∨ (((G.1 a 6).toInt) = 0 ∧ ffP (G.2.1 (F a 10)) (mw (G_127.2.1 (F a 1)) 0) (fuO (G.2.1 (F a 10)) (mw (G.2.1 (F a 1)) 0) (mw (G_127.2.1 (F a 1)) 0) 1) ≠ -1)) ∧ x249.toInt = -5 ∧ mw (G249.2.1 (F a 1)) 0 = mw (G69.2.1 (F a 4)) 0) ∨ (ffP (G.2.1 (F a 10)) (mw (G_127.2.1 (F a 1)) 0) (fuO (G.2.1 (F a 10)) (mw (G.2.1 (F a 1)) 0) (mw (G_127.2.1 (F a 1)) 0) 0) = -1 ∧ (((G.1 a 6).toInt) = 0 → ffP (G.2.1 (F a 10)) (mw (G_127.2.1 (F a 1)) 0) (fuO (G.2.1 (F a 10)) (mw (G.2.1 (F a 1)) 0) (mw (G_127.2.1 (F a 1)) 0) 1) = -1) ∧ x249.toInt = (((fuO (G.2.1 (F a 10)) (mw (G.2.1 (F a 1)) 0) (mw (G_127.2.1 (F a 1)) 0) 2).length : Nat) : Int) ∧ mw (G249.2.1 (F a 1)) 0 = mw (G_127.2.1 (F a 1)) 0) := by simp only [(show G_127.2.1 (F a 10) = G.2.1 (F a 10) from ((hF_127.2.1 _ (xn1 (xne_k hk9999m hk9999c (by decide)) xn0)).trans ((lc_c hG123 (xne_k hk9999m hk9999c (by decide))).trans ((hF_75.2.1 _ (xn1 (xne_k hk9999m hk9999c (by decide)) xn0)).trans ((hF69.2.1 _ (xn1 (xne_k hk9999m hk9999k (by decide)) (xn1 (xne_k hk9999m hk9999l (by decide)) xn0))).trans ((hF6.2.1 _ xn0).trans (ld_c hG2))))))), (show G_127.1 a 6 = G.1 a 6 from ((hF_127.1 _ _ xn0).trans ((lc_d hG123).trans ((hF_75.1 _ _ xn0).trans ((hF69.1 _ _ xn0).trans ((hF6.1 _ _ (xnj (by decide) (xnj (by decide) (xnj (by decide) xn0)))).trans (ld_j hG2 (by decide)))))))), (show G_127.2.1 (F a 4) = G69.2.1 (F a 4) from ((hF_127.2.1 _ (xn1 (xne_k hk9999k hk9999c (by decide)) xn0)).trans ((lc_c hG123 (xne_k hk9999k hk9999c (by decide))).trans (hF_75.2.1 _ (xn1 (xne_k hk9999k hk9999c (by decide)) xn0)))))] at oq249; exact oq249
                        exact x_ri hx hb hr hlk hQ (Nat.le_of_ble_eq_true rfl) (Nat.le_of_ble_eq_true rfl) hS dX11_rekey_252 G249 ⟨_, rfl, (XFr.call (XFr.call (by rw [hG123]; exact XFr.cput (XFr.call (XFr.call (XFr.call (by rw [hG2]; exact XFr.dput XFr.rf (List.mem_of_getElem? (i := 9) rfl)) hF6 (xm1 2 rfl (xm1 3 rfl (xm1 4 rfl xm0))) xm0 xm0) hF69 xm0 (xm1 11 rfl (xm1 12 rfl xm0)) xm0) hF_75 xm0 (xm1 3 rfl xm0) xm0) (List.mem_of_getElem? (i := 3) rfl)) hF_127 xm0 (xm1 3 rfl xm0) xm0) hF249 (xm1 0 rfl (xm1 1 rfl (xm1 2 rfl (xm1 3 rfl (xm1 4 rfl (xm1 5 rfl (xm1 6 rfl (xm1 7 rfl (xm1 8 rfl xm0))))))))) (xm1 0 rfl (xm1 1 rfl (xm1 2 rfl (xm1 3 rfl (xm1 4 rfl (xm1 5 rfl (xm1 6 rfl (xm1 7 rfl (xm1 8 rfl (xm1 9 rfl (xm1 10 rfl xm0))))))))))) xm0), (t249), (v_X11_rekey_252_14 (F := F) G69 a G G_127 p0 p1 p2 l4_127 x249 G249 x39 x55 oq69 mv oq249 z36 z36a z36b t39 c42 t55 c58 I127_0 c131), (v_X11_rekey_252_15 (F := F) a G249 oq249a)⟩ hT
                      · refine lv_iconst (v := 0) hx hb dX11_rekey_134 (by decide) ?_
                        refine lv_istore (lv' := [(5, .int 0), (0, .ref a), (1, .int p0), (2, .int p1), (3, .int p2), (4, .int l4_127)]) hx hb dX11_rekey_135 hl (by decide) rfl (fun ls hl => ?_)
                        have L137 : ∀ (N137 : Nat) (l5_137 : Int32) (G_137 : XG) (H : Heap) (locs : List Loc) (ls : Array Slot), XFr [] [F a 1] [] G_127 G_137 → mw (G_137.2.1 (F a 1)) 0 = repl (mvR (refA (G.2.1 (F a 10))) (refT (G.2.1 (F a 10))) (refC (G.2.1 (F a 10))) p0.toInt p1.toInt p2.toInt (rmv (mw (G.2.1 (F a 1)) 0) p0.toInt p1.toInt p2.toInt) (Int.toNat (l4_127.toInt))) (refT (G.2.1 (F a 10)) (l4_127.toInt)) (refC (G.2.1 (F a 10)) (l4_127.toInt)) p1.toInt (if refA (G.2.1 (F a 10)) (l4_127.toInt) p0.toInt = 1 then p2.toInt else -1000) (l5_137.toInt) → RM (G_137.2.1 (F a 1)) 0 → 0 ≤ l5_137.toInt ∧ l5_137.toInt ≤ 30 → l5_137.toInt = 0 ∨ 0 < (refA (G.2.1 (F a 10)) (l4_127.toInt) (p0.toInt)) → (0 : Int) ≤ l5_137.toInt → 2147483648 - l5_137.toInt < ((N137 : Nat) : Int) → TW E K F G_137 H → va_S (xA E) s.heap H locs → lv_has ls 7 [(0, .ref a), (1, .int p0), (2, .int p1), (3, .int p2), (4, .int l4_127), (5, .int l5_137)] → W p l e rm_X11_rekey s m args below meth c H locs 0 0 Q (F0 m 137 ls []) := by
                          intro N137
                          induction N137 with
                          | zero =>
                            intro l5_137 G_137 H locs ls hF_137 rp rm I137_0 I137_1 I137_2 hm137
                            exact absurd hm137 (z_X11_rekey_12 l5_137.toInt I137_0)
                          | succ N137 ih137 =>
                            intro l5_137 G_137 H locs ls hF_137 rp rm I137_0 I137_1 I137_2 hm137 hT hS hl
                            refine lv_iload hx hb dX11_rekey_137 (lv_at hl 5 rfl) ?_
                            refine lv_bipush (v := 30) hx hb dX11_rekey_139 (by decide) ?_
                            refine xi_cge (tgt := 242) hx hb (rfl : Int32.toInt l5_137 = l5_137.toInt) ((by decide) : Int32.toInt 30 = (30 : Int)) dX11_rekey_141 (by decide) (fun c141 => ?_) (fun c141 => ?_)
                            · refine xi_iinc (n := 1) (lv' := fun z9 => [(4, .int z9), (0, .ref a), (1, .int p0), (2, .int p1), (3, .int p2), (5, .int l5_137)]) (k := 4) hx hb (rfl : Int32.toInt l4_127 = l4_127.toInt) (by decide) dX11_rekey_242 hl rfl (by decide) (fun _ => rfl) (fun x242 ls t242 hl => ?_)
                              have e242 : x242.toInt = (l4_127.toInt + 1) := (z_X11_rekey_13 l4_127.toInt x242.toInt I127_0 t242)
                              have hl : lv_has ls 7 [(4, .int x242), (0, .ref a), (1, .int p0), (2, .int p1), (3, .int p2), (5, .int l5_137)] := hl
                              refine lv_goto (tgt := 127) hx hb dX11_rekey_245 (by decide) ?_
                              exact ih127 x242 G_137 _ _ _ (XFr.call (XFr.call XFr.rf hF_127 xm0 (xm1 0 rfl xm0) xm0) hF_137 xm0 (xm1 0 rfl xm0) xm0) (by rw [(e242 : Int32.toInt x242 = (l4_127.toInt + 1))] <;> exact (v_X11_rekey_245_16 (K := K) (F := F) a G G6 x119 G_137 p0 p1 p2 l4_75 l4_127 l5_137 x10 x17 x24 x39 x55 N75 N127 N137 ha rp am t6 t10 c13 t17 c20 t24 c27 z36 z36a z36b t39 c42 t55 c58 z68 I75_0 I75_1 hm75 c78 t119 I127_0 I127_1 hm127 c131 I137_0 I137_1 I137_2 hm137 c141)) (v_X11_rekey_245_17 (F := F) a G_137 rm) (by rw [(e242 : Int32.toInt x242 = (l4_127.toInt + 1))] <;> exact (z_X11_rekey_14 l4_127.toInt I127_0 c131)) (by rw [(e242 : Int32.toInt x242 = (l4_127.toInt + 1))] <;> exact (z_X11_rekey_15 l4_127.toInt I127_0)) (by rw [(e242 : Int32.toInt x242 = (l4_127.toInt + 1))] <;> exact (z_X11_rekey_16 l4_127.toInt N127 hm127)) hT hS (lv_sub hl [1, 2, 3, 4, 0] rfl)
                            · refine lv_aload_n hx hb dX11_rekey_144 rfl (lv_at hl 0 rfl) ?_
                              refine lv_iload hx hb dX11_rekey_145 (lv_at hl 4 rfl) ?_
                              refine lv_iload_n hx hb dX11_rekey_147 rfl (lv_at hl 1 rfl) ?_
                              refine x_clp (x_runV (b := a) (As := [.int l4_127, .int p0]) (rest := []) S (c_X11_isFor l E K F G_137 H a l4_127 p0 ha) mv_X11_isFor km_X11_367 rfl rfl ⟨Nat.le_of_ble_eq_true rfl, Nat.le_of_ble_eq_true rfl⟩ (rc_13 hK hT ha) hK (fun _ => XPh.blind) (fun U hU hW => XPh.at hK hz hS hT hU hW) rfl hl.1 (Nat.le_of_ble_eq_true rfl) dX11_rekey_148 ⟨Nat.le_of_ble_eq_true rfl, Nat.le_of_ble_eq_true rfl⟩) hS ?_
                              rintro _ _ locs ⟨x148, rfl, b148, t148⟩ hS
                              have t148 : (x148.toInt = 1 ∧ 0 < (refA (G.2.1 (F a 10)) (l4_127.toInt) (p0.toInt))) ∨ (x148.toInt = 0 ∧ ¬ (0 < (refA (G.2.1 (F a 10)) (l4_127.toInt) (p0.toInt)))) := by rw [(show G_137.2.1 (F a 10) = G.2.1 (F a 10) from ((hF_137.2.1 _ (xn1 (xne_k hk9999m hk9999c (by decide)) xn0)).trans ((hF_127.2.1 _ (xn1 (xne_k hk9999m hk9999c (by decide)) xn0)).trans ((lc_c hG123 (xne_k hk9999m hk9999c (by decide))).trans ((hF_75.2.1 _ (xn1 (xne_k hk9999m hk9999c (by decide)) xn0)).trans ((hF69.2.1 _ (xn1 (xne_k hk9999m hk9999k (by decide)) (xn1 (xne_k hk9999m hk9999l (by decide)) xn0))).trans ((hF6.2.1 _ xn0).trans (ld_c hG2))))))))] at t148; exact t148
                              refine xi_zeq (tgt := 242) hx hb (rfl : Int32.toInt x148 = x148.toInt) dX11_rekey_151 (by decide) (fun c151 => ?_) (fun c151 => ?_)
                              · refine xi_iinc (n := 1) (lv' := fun z9 => [(4, .int z9), (0, .ref a), (1, .int p0), (2, .int p1), (3, .int p2), (5, .int l5_137)]) (k := 4) hx hb (rfl : Int32.toInt l4_127 = l4_127.toInt) (by decide) dX11_rekey_242 hl rfl (by decide) (fun _ => rfl) (fun x242 ls t242 hl => ?_)
                                have e242 : x242.toInt = (l4_127.toInt + 1) := (z_X11_rekey_13 l4_127.toInt x242.toInt I127_0 t242)
                                have hl : lv_has ls 7 [(4, .int x242), (0, .ref a), (1, .int p0), (2, .int p1), (3, .int p2), (5, .int l5_137)] := hl
                                refine lv_goto (tgt := 127) hx hb dX11_rekey_245 (by decide) ?_
                                exact ih127 x242 G_137 _ _ _ (XFr.call (XFr.call XFr.rf hF_127 xm0 (xm1 0 rfl xm0) xm0) hF_137 xm0 (xm1 0 rfl xm0) xm0) (by rw [(e242 : Int32.toInt x242 = (l4_127.toInt + 1))] <;> exact (v_X11_rekey_245_18 (K := K) (F := F) a G G6 x119 G_137 p0 p1 p2 l4_75 l4_127 l5_137 x10 x17 x24 x39 x55 N75 N127 N137 x148 ha rp am t6 t10 c13 t17 c20 t24 c27 z36 z36a z36b t39 c42 t55 c58 z68 I75_0 I75_1 hm75 c78 t119 I127_0 I127_1 hm127 c131 I137_0 I137_1 I137_2 hm137 c141 t148 c151)) (v_X11_rekey_245_19 (F := F) a G_137 rm) (by rw [(e242 : Int32.toInt x242 = (l4_127.toInt + 1))] <;> exact (z_X11_rekey_14 l4_127.toInt I127_0 c131)) (by rw [(e242 : Int32.toInt x242 = (l4_127.toInt + 1))] <;> exact (z_X11_rekey_15 l4_127.toInt I127_0)) (by rw [(e242 : Int32.toInt x242 = (l4_127.toInt + 1))] <;> exact (z_X11_rekey_16 l4_127.toInt N127 hm127)) hT hS (lv_sub hl [1, 2, 3, 4, 0] rfl)
                              · have z154 : ((0 ≤ l4_127.toInt ∧ l4_127.toInt < 12 ∧ (aI (G.2.1 (F a 10)) (10 * l4_127.toInt + 0)) = 1 ∧ (aI (G.2.1 (F a 10)) (10 * l4_127.toInt + 3)) = p0.toInt) ∧ (refA (G.2.1 (F a 10)) (l4_127.toInt) (p0.toInt)) = (aI (G.2.1 (F a 10)) (10 * l4_127.toInt + 8))) ∨ (¬ (0 ≤ l4_127.toInt ∧ l4_127.toInt < 12 ∧ (aI (G.2.1 (F a 10)) (10 * l4_127.toInt + 0)) = 1 ∧ (aI (G.2.1 (F a 10)) (10 * l4_127.toInt + 3)) = p0.toInt) ∧ (refA (G.2.1 (F a 10)) (l4_127.toInt) (p0.toInt)) = 0) := refA_f
                                have z154a : (-1 ≤ (aI (G.2.1 (F a 10)) (10 * l4_127.toInt + 0)) ∧ (aI (G.2.1 (F a 10)) (10 * l4_127.toInt + 0)) ≤ 5) ∧ (0 ≤ (aI (G.2.1 (F a 10)) (10 * l4_127.toInt + 1)) ∧ (aI (G.2.1 (F a 10)) (10 * l4_127.toInt + 1)) ≤ 2) ∧ (0 ≤ (aI (G.2.1 (F a 10)) (10 * l4_127.toInt + 2)) ∧ (aI (G.2.1 (F a 10)) (10 * l4_127.toInt + 2)) ≤ 2) := (fun h => ⟨h.1, h.2.1, h.2.2.1⟩) (RV.row hR (z_X11_rekey_21 l4_127.toInt I127_0 c131))
                                refine lv_aload_n hx hb dX11_rekey_154 rfl (lv_at hl 0 rfl) ?_
                                refine lv_iload hx hb dX11_rekey_155 (lv_at hl 4 rfl) ?_
                                refine lv_iconst (v := 1) hx hb dX11_rekey_157 (by decide) ?_
                                refine x_clp (x_runV (b := a) (As := [.int l4_127, .int 1]) (rest := []) S (c_X11_of l E K F G_137 H a l4_127 1 ha (z_X11_rekey_21 l4_127.toInt I127_0 c131) (by decide)) mv_X11_of km_X11_165 rfl rfl ⟨Nat.le_of_ble_eq_true rfl, Nat.le_of_ble_eq_true rfl⟩ (rc_13 hK hT ha) hK (fun _ => XPh.blind) (fun U hU hW => XPh.at hK hz hS hT hU hW) rfl hl.1 (Nat.le_of_ble_eq_true rfl) dX11_rekey_158 ⟨Nat.le_of_ble_eq_true rfl, Nat.le_of_ble_eq_true rfl⟩) hS ?_
                                rintro _ _ locs ⟨x158, rfl, t158⟩ hS
                                have t158 : x158.toInt = (aI (G.2.1 (F a 10)) (10 * l4_127.toInt + 1)) := by rw [(show G_137.2.1 (F a 10) = G.2.1 (F a 10) from ((hF_137.2.1 _ (xn1 (xne_k hk9999m hk9999c (by decide)) xn0)).trans ((hF_127.2.1 _ (xn1 (xne_k hk9999m hk9999c (by decide)) xn0)).trans ((lc_c hG123 (xne_k hk9999m hk9999c (by decide))).trans ((hF_75.2.1 _ (xn1 (xne_k hk9999m hk9999c (by decide)) xn0)).trans ((hF69.2.1 _ (xn1 (xne_k hk9999m hk9999k (by decide)) (xn1 (xne_k hk9999m hk9999l (by decide)) xn0))).trans ((hF6.2.1 _ xn0).trans (ld_c hG2))))))))] at t158; exact t158
                                refine lv_iload hx hb dX11_rekey_161 (lv_at hl 5 rfl) ?_
                                refine x_clp (x_runS (As := [.int x158, .int l5_137]) (rest := []) S (c_X11_at l E K F G_137 H x158 l5_137) ms_X11_at km_X11_156 rfl rfl ⟨Nat.le_of_ble_eq_true rfl, Nat.le_of_ble_eq_true rfl⟩ hK (fun _ => XPh.blind) (fun U hU hW => XPh.at hK hz hS hT hU hW) rfl hl.1 (Nat.le_of_ble_eq_true rfl) dX11_rekey_163 ⟨Nat.le_of_ble_eq_true rfl, Nat.le_of_ble_eq_true rfl⟩) hS ?_
                                rintro _ _ locs ⟨x163, rfl, t163⟩ hS
                                have t163 : 0 ≤ (aI (G.2.1 (F a 10)) (10 * l4_127.toInt + 1)) ∧ (aI (G.2.1 (F a 10)) (10 * l4_127.toInt + 1)) ≤ 2 ∧ 0 ≤ l5_137.toInt ∧ l5_137.toInt ≤ 29 → x163.toInt = 4 * (30 * (aI (G.2.1 (F a 10)) (10 * l4_127.toInt + 1)) + l5_137.toInt) := by rw [(t158 : Int32.toInt x158 = (aI (G.2.1 (F a 10)) (10 * l4_127.toInt + 1)))] at t163; exact t163
                                refine lv_istore (lv' := [(6, .int x163), (0, .ref a), (1, .int p0), (2, .int p1), (3, .int p2), (4, .int l4_127), (5, .int l5_137)]) hx hb dX11_rekey_166 hl (by decide) rfl (fun ls hl => ?_)
                                have z168 : ((aI (G_137.2.1 (F a 1)) (0 + 4 * (30 * (aI (G.2.1 (F a 10)) (10 * l4_127.toInt + 1)) + l5_137.toInt))) = 0 ∧ (cel (mw (G_137.2.1 (F a 1)) 0) (aI (G.2.1 (F a 10)) (10 * l4_127.toInt + 1)) (l5_137.toInt) (aI (G.2.1 (F a 10)) (10 * l4_127.toInt + 2))) = -2000) ∨ ((aI (G_137.2.1 (F a 1)) (0 + 4 * (30 * (aI (G.2.1 (F a 10)) (10 * l4_127.toInt + 1)) + l5_137.toInt))) = 1 ∧ (cel (mw (G_137.2.1 (F a 1)) 0) (aI (G.2.1 (F a 10)) (10 * l4_127.toInt + 1)) (l5_137.toInt) (aI (G.2.1 (F a 10)) (10 * l4_127.toInt + 2))) = (aI (G_137.2.1 (F a 1)) (0 + 4 * (30 * (aI (G.2.1 (F a 10)) (10 * l4_127.toInt + 1)) + l5_137.toInt) + 1 + (aI (G.2.1 (F a 10)) (10 * l4_127.toInt + 2))))) := (rm.okc (z_X11_rekey_23 l5_137.toInt (aI (G.2.1 (F a 10)) (10 * l4_127.toInt + 0)) (aI (G.2.1 (F a 10)) (10 * l4_127.toInt + 1)) (aI (G.2.1 (F a 10)) (10 * l4_127.toInt + 2)) I137_0 c141 z154a)).imp id (fun h => ⟨h.1, h.2.1⟩)
                                refine lv_aload_n hx hb dX11_rekey_168 rfl (lv_at hl 1 rfl) ?_
                                refine gX11_1 S hK hT ha kf_X11_9 dX11_rekey_169 (fun _ _ => ?_)
                                refine lv_iload hx hb dX11_rekey_172 (lv_at hl 0 rfl) ?_
                                refine al_0 S hK hT hk9999c ar_30 (by decide) (z_X11_rekey_24 l5_137.toInt x163.toInt (aI (G.2.1 (F a 10)) (10 * l4_127.toInt + 0)) (aI (G.2.1 (F a 10)) (10 * l4_127.toInt + 1)) (aI (G.2.1 (F a 10)) (10 * l4_127.toInt + 2)) I137_0 c141 z154a t163) dX11_rekey_174 (fun x174 hv174 o174 => ?_)
                                have hv174 : x174.toInt = (aI (G_137.2.1 (F a 1)) (0 + 4 * (30 * (aI (G.2.1 (F a 10)) (10 * l4_127.toInt + 1)) + l5_137.toInt))) := hv174.trans (by rw [((rfl : Int32.toInt x163 = x163.toInt).trans (z_X11_rekey_25 l5_137.toInt x163.toInt (aI (G.2.1 (F a 10)) (10 * l4_127.toInt + 0)) (aI (G.2.1 (F a 10)) (10 * l4_127.toInt + 1)) (aI (G.2.1 (F a 10)) (10 * l4_127.toInt + 2)) I137_0 c141 z154a t163))])
                                refine lv_iconst (v := 1) hx hb dX11_rekey_175 (by decide) ?_
                                refine xi_cne (tgt := 236) hx hb (hv174 : Int32.toInt x174 = (aI (G_137.2.1 (F a 1)) (0 + 4 * (30 * (aI (G.2.1 (F a 10)) (10 * l4_127.toInt + 1)) + l5_137.toInt)))) ((by decide) : Int32.toInt 1 = (1 : Int)) dX11_rekey_176 (by decide) (fun c176 => ?_) (fun c176 => ?_)
                                · refine xi_iinc (n := 1) (lv' := fun z9 => [(5, .int z9), (6, .int x163), (0, .ref a), (1, .int p0), (2, .int p1), (3, .int p2), (4, .int l4_127)]) (k := 6) hx hb (rfl : Int32.toInt l5_137 = l5_137.toInt) (by decide) dX11_rekey_236 hl rfl (by decide) (fun _ => rfl) (fun x236 ls t236 hl => ?_)
                                  have e236 : x236.toInt = (l5_137.toInt + 1) := (z_X11_rekey_26 l5_137.toInt x236.toInt I137_0 t236)
                                  have hl : lv_has ls 7 [(5, .int x236), (6, .int x163), (0, .ref a), (1, .int p0), (2, .int p1), (3, .int p2), (4, .int l4_127)] := hl
                                  refine lv_goto (tgt := 137) hx hb dX11_rekey_239 (by decide) ?_
                                  exact ih137 x236 G_137 _ _ _ (XFr.call XFr.rf hF_137 xm0 (xm1 0 rfl xm0) xm0) (by rw [(e236 : Int32.toInt x236 = (l5_137.toInt + 1))] <;> exact (v_X11_rekey_239_20 (K := K) (F := F) a G G6 x119 G_137 p0 p1 p2 l4_75 l4_127 l5_137 x10 x17 x24 x39 x55 N75 N127 N137 x148 x163 ha rp am t6 t10 c13 t17 c20 t24 c27 z36 z36a z36b t39 c42 t55 c58 z68 I75_0 I75_1 hm75 c78 t119 I127_0 I127_1 hm127 c131 I137_0 I137_1 I137_2 hm137 c141 t148 c151 z154 z154a t163 z168 c176)) (v_X11_rekey_239_21 (F := F) a G_137 rm) (by rw [(e236 : Int32.toInt x236 = (l5_137.toInt + 1))] <;> exact (z_X11_rekey_27 l5_137.toInt I137_0 c141)) (by rw [(e236 : Int32.toInt x236 = (l5_137.toInt + 1))] <;> exact (z_X11_rekey_28 l5_137.toInt x148.toInt (refA (G.2.1 (F a 10)) (l4_127.toInt) (p0.toInt)) t148 c151)) (by rw [(e236 : Int32.toInt x236 = (l5_137.toInt + 1))] <;> exact (z_X11_rekey_29 l5_137.toInt I137_0)) (by rw [(e236 : Int32.toInt x236 = (l5_137.toInt + 1))] <;> exact (z_X11_rekey_16 l5_137.toInt N137 hm137)) hT hS (lv_sub hl [2, 3, 4, 5, 6, 0] rfl)
                                · refine lv_aload_n hx hb dX11_rekey_179 rfl (lv_at hl 1 rfl) ?_
                                  refine gX11_1 S hK hT ha kf_X11_9 dX11_rekey_180 (fun _ _ => ?_)
                                  refine lv_iload hx hb dX11_rekey_183 (lv_at hl 0 rfl) ?_
                                  refine lv_iconst (v := 1) hx hb dX11_rekey_185 (by decide) ?_
                                  refine xi_iadd hx hb (rfl : Int32.toInt x163 = x163.toInt) ((by decide) : Int32.toInt 1 = (1 : Int)) dX11_rekey_186 (fun x186 t186 => ?_)
                                  refine lv_aload_n hx hb dX11_rekey_187 rfl (lv_at hl 1 rfl) ?_
                                  refine lv_iload hx hb dX11_rekey_188 (lv_at hl 5 rfl) ?_
                                  refine lv_iconst (v := 2) hx hb dX11_rekey_190 (by decide) ?_
                                  refine x_clp (x_runV (b := a) (As := [.int l4_127, .int 2]) (rest := [.int x186, .ref (F a 1)]) S (c_X11_of l E K F G_137 H a l4_127 2 ha (z_X11_rekey_21 l4_127.toInt I127_0 c131) (by decide)) mv_X11_of km_X11_165 rfl rfl ⟨Nat.le_of_ble_eq_true rfl, Nat.le_of_ble_eq_true rfl⟩ (rc_13 hK hT ha) hK (fun _ => XPh.blind) (fun U hU hW => XPh.at hK hz hS hT hU hW) rfl hl.1 (Nat.le_of_ble_eq_true rfl) dX11_rekey_191 ⟨Nat.le_of_ble_eq_true rfl, Nat.le_of_ble_eq_true rfl⟩) hS ?_
                                  rintro _ _ locs ⟨x191, rfl, t191⟩ hS
                                  have t191 : x191.toInt = (aI (G.2.1 (F a 10)) (10 * l4_127.toInt + 2)) := by rw [(show G_137.2.1 (F a 10) = G.2.1 (F a 10) from ((hF_137.2.1 _ (xn1 (xne_k hk9999m hk9999c (by decide)) xn0)).trans ((hF_127.2.1 _ (xn1 (xne_k hk9999m hk9999c (by decide)) xn0)).trans ((lc_c hG123 (xne_k hk9999m hk9999c (by decide))).trans ((hF_75.2.1 _ (xn1 (xne_k hk9999m hk9999c (by decide)) xn0)).trans ((hF69.2.1 _ (xn1 (xne_k hk9999m hk9999k (by decide)) (xn1 (xne_k hk9999m hk9999l (by decide)) xn0))).trans ((hF6.2.1 _ xn0).trans (ld_c hG2))))))))] at t191; exact t191
                                  refine xi_iadd hx hb (rfl : Int32.toInt x186 = x186.toInt) (t191 : Int32.toInt x191 = (aI (G.2.1 (F a 10)) (10 * l4_127.toInt + 2))) dX11_rekey_194 (fun x194 t194 => ?_)
                                  refine al_0 S hK hT hk9999c ar_30 (by decide) (z_X11_rekey_32 l5_137.toInt x163.toInt x186.toInt x194.toInt (aI (G.2.1 (F a 10)) (10 * l4_127.toInt + 0)) (aI (G.2.1 (F a 10)) (10 * l4_127.toInt + 1)) (aI (G.2.1 (F a 10)) (10 * l4_127.toInt + 2)) I137_0 c141 z154a t163 t186 t194) dX11_rekey_195 (fun x195 hv195 o195 => ?_)
                                  have hv195 : x195.toInt = (aI (G_137.2.1 (F a 1)) (0 + 4 * (30 * (aI (G.2.1 (F a 10)) (10 * l4_127.toInt + 1)) + l5_137.toInt) + 1 + (aI (G.2.1 (F a 10)) (10 * l4_127.toInt + 2)))) := hv195.trans (by rw [((rfl : Int32.toInt x194 = x194.toInt).trans (z_X11_rekey_33 l5_137.toInt x163.toInt x186.toInt x194.toInt (aI (G.2.1 (F a 10)) (10 * l4_127.toInt + 0)) (aI (G.2.1 (F a 10)) (10 * l4_127.toInt + 1)) (aI (G.2.1 (F a 10)) (10 * l4_127.toInt + 2)) I137_0 c141 z154a t163 t186 t194))])
                                  refine lv_iload_n hx hb dX11_rekey_196 rfl (lv_at hl 3 rfl) ?_
                                  refine xi_cne (tgt := 236) hx hb (hv195 : Int32.toInt x195 = (aI (G_137.2.1 (F a 1)) (0 + 4 * (30 * (aI (G.2.1 (F a 10)) (10 * l4_127.toInt + 1)) + l5_137.toInt) + 1 + (aI (G.2.1 (F a 10)) (10 * l4_127.toInt + 2))))) (rfl : Int32.toInt p1 = p1.toInt) dX11_rekey_197 (by decide) (fun c197 => ?_) (fun c197 => ?_)
                                  · refine xi_iinc (n := 1) (lv' := fun z9 => [(5, .int z9), (6, .int x163), (0, .ref a), (1, .int p0), (2, .int p1), (3, .int p2), (4, .int l4_127)]) (k := 6) hx hb (rfl : Int32.toInt l5_137 = l5_137.toInt) (by decide) dX11_rekey_236 hl rfl (by decide) (fun _ => rfl) (fun x236 ls t236 hl => ?_)
                                    have e236 : x236.toInt = (l5_137.toInt + 1) := (z_X11_rekey_26 l5_137.toInt x236.toInt I137_0 t236)
                                    have hl : lv_has ls 7 [(5, .int x236), (6, .int x163), (0, .ref a), (1, .int p0), (2, .int p1), (3, .int p2), (4, .int l4_127)] := hl
                                    refine lv_goto (tgt := 137) hx hb dX11_rekey_239 (by decide) ?_
                                    exact ih137 x236 G_137 _ _ _ (XFr.call XFr.rf hF_137 xm0 (xm1 0 rfl xm0) xm0) (by rw [(e236 : Int32.toInt x236 = (l5_137.toInt + 1))] <;> exact (v_X11_rekey_239_22 (K := K) (F := F) a G G6 x119 G_137 p0 p1 p2 l4_75 l4_127 l5_137 x10 x17 x24 x39 x55 N75 N127 N137 x148 x163 ha rp am t6 t10 c13 t17 c20 t24 c27 z36 z36a z36b t39 c42 t55 c58 z68 I75_0 I75_1 hm75 c78 t119 I127_0 I127_1 hm127 c131 I137_0 I137_1 I137_2 hm137 c141 t148 c151 z154 z154a t163 z168 c176 c197)) (v_X11_rekey_239_23 (F := F) a G_137 rm) (by rw [(e236 : Int32.toInt x236 = (l5_137.toInt + 1))] <;> exact (z_X11_rekey_27 l5_137.toInt I137_0 c141)) (by rw [(e236 : Int32.toInt x236 = (l5_137.toInt + 1))] <;> exact (z_X11_rekey_28 l5_137.toInt x148.toInt (refA (G.2.1 (F a 10)) (l4_127.toInt) (p0.toInt)) t148 c151)) (by rw [(e236 : Int32.toInt x236 = (l5_137.toInt + 1))] <;> exact (z_X11_rekey_29 l5_137.toInt I137_0)) (by rw [(e236 : Int32.toInt x236 = (l5_137.toInt + 1))] <;> exact (z_X11_rekey_16 l5_137.toInt N137 hm137)) hT hS (lv_sub hl [2, 3, 4, 5, 6, 0] rfl)
                                  · refine lv_aload_n hx hb dX11_rekey_200 rfl (lv_at hl 1 rfl) ?_
                                    refine gX11_1 S hK hT ha kf_X11_9 dX11_rekey_201 (fun _ _ => ?_)
                                    refine lv_iload hx hb dX11_rekey_204 (lv_at hl 0 rfl) ?_
                                    refine lv_iconst (v := 1) hx hb dX11_rekey_206 (by decide) ?_
                                    refine xi_iadd hx hb (rfl : Int32.toInt x163 = x163.toInt) ((by decide) : Int32.toInt 1 = (1 : Int)) dX11_rekey_207 (fun x207 t207 => ?_)
                                    refine lv_aload_n hx hb dX11_rekey_208 rfl (lv_at hl 1 rfl) ?_
                                    refine lv_iload hx hb dX11_rekey_209 (lv_at hl 5 rfl) ?_
                                    refine lv_iconst (v := 2) hx hb dX11_rekey_211 (by decide) ?_
                                    refine x_clp (x_runV (b := a) (As := [.int l4_127, .int 2]) (rest := [.int x207, .ref (F a 1)]) S (c_X11_of l E K F G_137 H a l4_127 2 ha (z_X11_rekey_21 l4_127.toInt I127_0 c131) (by decide)) mv_X11_of km_X11_165 rfl rfl ⟨Nat.le_of_ble_eq_true rfl, Nat.le_of_ble_eq_true rfl⟩ (rc_13 hK hT ha) hK (fun _ => XPh.blind) (fun U hU hW => XPh.at hK hz hS hT hU hW) rfl hl.1 (Nat.le_of_ble_eq_true rfl) dX11_rekey_212 ⟨Nat.le_of_ble_eq_true rfl, Nat.le_of_ble_eq_true rfl⟩) hS ?_
                                    rintro _ _ locs ⟨x212, rfl, t212⟩ hS
                                    have t212 : x212.toInt = (aI (G.2.1 (F a 10)) (10 * l4_127.toInt + 2)) := by rw [(show G_137.2.1 (F a 10) = G.2.1 (F a 10) from ((hF_137.2.1 _ (xn1 (xne_k hk9999m hk9999c (by decide)) xn0)).trans ((hF_127.2.1 _ (xn1 (xne_k hk9999m hk9999c (by decide)) xn0)).trans ((lc_c hG123 (xne_k hk9999m hk9999c (by decide))).trans ((hF_75.2.1 _ (xn1 (xne_k hk9999m hk9999c (by decide)) xn0)).trans ((hF69.2.1 _ (xn1 (xne_k hk9999m hk9999k (by decide)) (xn1 (xne_k hk9999m hk9999l (by decide)) xn0))).trans ((hF6.2.1 _ xn0).trans (ld_c hG2))))))))] at t212; exact t212
                                    refine xi_iadd hx hb (rfl : Int32.toInt x207 = x207.toInt) (t212 : Int32.toInt x212 = (aI (G.2.1 (F a 10)) (10 * l4_127.toInt + 2))) dX11_rekey_215 (fun x215 t215 => ?_)
                                    refine lv_aload_n hx hb dX11_rekey_216 rfl (lv_at hl 1 rfl) ?_
                                    refine lv_iload hx hb dX11_rekey_217 (lv_at hl 5 rfl) ?_
                                    refine lv_bipush (v := 8) hx hb dX11_rekey_219 (by decide) ?_
                                    refine x_clp (x_runV (b := a) (As := [.int l4_127, .int 8]) (rest := [.int x215, .ref (F a 1)]) S (c_X11_of l E K F G_137 H a l4_127 8 ha (z_X11_rekey_21 l4_127.toInt I127_0 c131) (by decide)) mv_X11_of km_X11_165 rfl rfl ⟨Nat.le_of_ble_eq_true rfl, Nat.le_of_ble_eq_true rfl⟩ (rc_13 hK hT ha) hK (fun _ => XPh.blind) (fun U hU hW => XPh.at hK hz hS hT hU hW) rfl hl.1 (Nat.le_of_ble_eq_true rfl) dX11_rekey_221 ⟨Nat.le_of_ble_eq_true rfl, Nat.le_of_ble_eq_true rfl⟩) hS ?_
                                    rintro _ _ locs ⟨x221, rfl, t221⟩ hS
                                    have t221 : x221.toInt = (aI (G.2.1 (F a 10)) (10 * l4_127.toInt + 8)) := by rw [(show G_137.2.1 (F a 10) = G.2.1 (F a 10) from ((hF_137.2.1 _ (xn1 (xne_k hk9999m hk9999c (by decide)) xn0)).trans ((hF_127.2.1 _ (xn1 (xne_k hk9999m hk9999c (by decide)) xn0)).trans ((lc_c hG123 (xne_k hk9999m hk9999c (by decide))).trans ((hF_75.2.1 _ (xn1 (xne_k hk9999m hk9999c (by decide)) xn0)).trans ((hF69.2.1 _ (xn1 (xne_k hk9999m hk9999k (by decide)) (xn1 (xne_k hk9999m hk9999l (by decide)) xn0))).trans ((hF6.2.1 _ xn0).trans (ld_c hG2))))))))] at t221; exact t221
                                    refine lv_iconst (v := 1) hx hb dX11_rekey_224 (by decide) ?_
                                    refine xi_cne (tgt := 232) hx hb (t221 : Int32.toInt x221 = (aI (G.2.1 (F a 10)) (10 * l4_127.toInt + 8))) ((by decide) : Int32.toInt 1 = (1 : Int)) dX11_rekey_225 (by decide) (fun c225 => ?_) (fun c225 => ?_)
                                    · refine lv_sipush (v := (-1000)) hx hb dX11_rekey_232 (by decide) ?_
                                      refine as_0 (x := (-1000)) S hK hT hS hk9999c ar_30 aw_30 (by decide) (z_X11_rekey_32 l5_137.toInt x163.toInt x207.toInt x215.toInt (aI (G.2.1 (F a 10)) (10 * l4_127.toInt + 0)) (aI (G.2.1 (F a 10)) (10 * l4_127.toInt + 1)) (aI (G.2.1 (F a 10)) (10 * l4_127.toInt + 2)) I137_0 c141 z154a t163 t207 t215) dX11_rekey_235 (fun H locs hT hS => ?_)
                                      obtain ⟨G235, hG235⟩ : ∃ GG : XG, GG = cput G_137 (F a 1) x215.toNatClampNeg (-1000) := ⟨_, rfl⟩
                                      rw [← hG235] at hT
                                      refine xi_iinc (n := 1) (lv' := fun z9 => [(5, .int z9), (6, .int x163), (0, .ref a), (1, .int p0), (2, .int p1), (3, .int p2), (4, .int l4_127)]) (k := 6) hx hb (rfl : Int32.toInt l5_137 = l5_137.toInt) (by decide) dX11_rekey_236 hl rfl (by decide) (fun _ => rfl) (fun x236 ls t236 hl => ?_)
                                      have e236 : x236.toInt = (l5_137.toInt + 1) := (z_X11_rekey_26 l5_137.toInt x236.toInt I137_0 t236)
                                      have hl : lv_has ls 7 [(5, .int x236), (6, .int x163), (0, .ref a), (1, .int p0), (2, .int p1), (3, .int p2), (4, .int l4_127)] := hl
                                      refine lv_goto (tgt := 137) hx hb dX11_rekey_239 (by decide) ?_
                                      exact ih137 x236 G235 _ _ _ (by rw [hG235]; exact XFr.cput (XFr.call XFr.rf hF_137 xm0 (xm1 0 rfl xm0) xm0) (List.mem_of_getElem? (i := 0) rfl)) (by rw [(e236 : Int32.toInt x236 = (l5_137.toInt + 1))] <;> exact (v_X11_rekey_239_24 (K := K) (F := F) a G G6 x119 G_137 G235 x215 p0 p1 p2 l4_75 l4_127 l5_137 x10 x17 x24 x39 x55 N75 N127 N137 x148 x163 x207 ha hG235 rp am t6 t10 c13 t17 c20 t24 c27 z36 z36a z36b t39 c42 t55 c58 z68 I75_0 I75_1 hm75 c78 t119 I127_0 I127_1 hm127 c131 I137_0 I137_1 I137_2 hm137 c141 t148 c151 z154 z154a t163 z168 c176 c197 t207 t215 c225)) (v_X11_rekey_239_25 (K := K) (F := F) a G G6 x119 G_137 G235 x215 p0 p1 p2 l4_75 l4_127 l5_137 x10 x17 x24 x39 x55 N75 N127 N137 x148 x163 x207 ha hG235 rm am t6 t10 c13 t17 c20 t24 c27 z36 z36a z36b t39 c42 t55 c58 z68 I75_0 I75_1 hm75 c78 t119 I127_0 I127_1 hm127 c131 I137_0 I137_1 I137_2 hm137 c141 t148 c151 z154 z154a t163 z168 c176 c197 t207 t215 c225) (by rw [(e236 : Int32.toInt x236 = (l5_137.toInt + 1))] <;> exact (z_X11_rekey_27 l5_137.toInt I137_0 c141)) (by rw [(e236 : Int32.toInt x236 = (l5_137.toInt + 1))] <;> exact (z_X11_rekey_28 l5_137.toInt x148.toInt (refA (G.2.1 (F a 10)) (l4_127.toInt) (p0.toInt)) t148 c151)) (by rw [(e236 : Int32.toInt x236 = (l5_137.toInt + 1))] <;> exact (z_X11_rekey_29 l5_137.toInt I137_0)) (by rw [(e236 : Int32.toInt x236 = (l5_137.toInt + 1))] <;> exact (z_X11_rekey_16 l5_137.toInt N137 hm137)) hT hS (lv_sub hl [2, 3, 4, 5, 6, 0] rfl)
                                    · refine lv_iload_n hx hb dX11_rekey_228 rfl (lv_at hl 4 rfl) ?_
                                      refine lv_goto (tgt := 235) hx hb dX11_rekey_229 (by decide) ?_
                                      refine as_0 (x := p2) S hK hT hS hk9999c ar_30 aw_30 (by decide) (z_X11_rekey_32 l5_137.toInt x163.toInt x207.toInt x215.toInt (aI (G.2.1 (F a 10)) (10 * l4_127.toInt + 0)) (aI (G.2.1 (F a 10)) (10 * l4_127.toInt + 1)) (aI (G.2.1 (F a 10)) (10 * l4_127.toInt + 2)) I137_0 c141 z154a t163 t207 t215) dX11_rekey_235 (fun H locs hT hS => ?_)
                                      obtain ⟨G235, hG235⟩ : ∃ GG : XG, GG = cput G_137 (F a 1) x215.toNatClampNeg p2 := ⟨_, rfl⟩
                                      rw [← hG235] at hT
                                      refine xi_iinc (n := 1) (lv' := fun z9 => [(5, .int z9), (6, .int x163), (0, .ref a), (1, .int p0), (2, .int p1), (3, .int p2), (4, .int l4_127)]) (k := 6) hx hb (rfl : Int32.toInt l5_137 = l5_137.toInt) (by decide) dX11_rekey_236 hl rfl (by decide) (fun _ => rfl) (fun x236 ls t236 hl => ?_)
                                      have e236 : x236.toInt = (l5_137.toInt + 1) := (z_X11_rekey_26 l5_137.toInt x236.toInt I137_0 t236)
                                      have hl : lv_has ls 7 [(5, .int x236), (6, .int x163), (0, .ref a), (1, .int p0), (2, .int p1), (3, .int p2), (4, .int l4_127)] := hl
                                      refine lv_goto (tgt := 137) hx hb dX11_rekey_239 (by decide) ?_
                                      exact ih137 x236 G235 _ _ _ (by rw [hG235]; exact XFr.cput (XFr.call XFr.rf hF_137 xm0 (xm1 0 rfl xm0) xm0) (List.mem_of_getElem? (i := 0) rfl)) (by rw [(e236 : Int32.toInt x236 = (l5_137.toInt + 1))] <;> exact (v_X11_rekey_239_26 (K := K) (F := F) a G G6 x119 G_137 G235 x215 p2 p0 p1 l4_75 l4_127 l5_137 x10 x17 x24 x39 x55 N75 N127 N137 x148 x163 x207 ha hG235 rp am t6 t10 c13 t17 c20 t24 c27 z36 z36a z36b t39 c42 t55 c58 z68 I75_0 I75_1 hm75 c78 t119 I127_0 I127_1 hm127 c131 I137_0 I137_1 I137_2 hm137 c141 t148 c151 z154 z154a t163 z168 c176 c197 t207 t215 c225)) (v_X11_rekey_239_27 (K := K) (F := F) a G G6 x119 G_137 G235 x215 p2 p0 p1 l4_75 l4_127 l5_137 x10 x17 x24 x39 x55 N75 N127 N137 x148 x163 x207 ha hG235 rm am t6 t10 c13 t17 c20 t24 c27 z36 z36a z36b t39 c42 t55 c58 z68 I75_0 I75_1 hm75 c78 t119 I127_0 I127_1 hm127 c131 I137_0 I137_1 I137_2 hm137 c141 t148 c151 z154 z154a t163 z168 c176 c197 t207 t215 c225) (by rw [(e236 : Int32.toInt x236 = (l5_137.toInt + 1))] <;> exact (z_X11_rekey_27 l5_137.toInt I137_0 c141)) (by rw [(e236 : Int32.toInt x236 = (l5_137.toInt + 1))] <;> exact (z_X11_rekey_28 l5_137.toInt x148.toInt (refA (G.2.1 (F a 10)) (l4_127.toInt) (p0.toInt)) t148 c151)) (by rw [(e236 : Int32.toInt x236 = (l5_137.toInt + 1))] <;> exact (z_X11_rekey_29 l5_137.toInt I137_0)) (by rw [(e236 : Int32.toInt x236 = (l5_137.toInt + 1))] <;> exact (z_X11_rekey_16 l5_137.toInt N137 hm137)) hT hS (lv_sub hl [2, 3, 4, 5, 6, 0] rfl)
                        exact L137 4294967297 0 G_127 _ _ _ XFr.rf (v_X11_rekey_135_28 (F := F) a G G_127 p0 p1 p2 l4_127 mv) (v_X11_rekey_135_29 (F := F) a G_127 rm) (by decide) (z_X11_rekey_53 (refA (G.2.1 (F a 10)) (l4_127.toInt) (p0.toInt))) (by decide) (by decide) hT hS (lv_sub hl [1, 2, 3, 4, 5, 0] rfl)
                  exact L127 4294967297 0 G123 _ _ _ XFr.rf (v_X11_rekey_125_30 (F := F) G123 G_75 a x119 G p0 p1 p2 l4_75 x39 x55 hG123 mp z36 z36a z36b t39 c42 t55 c58 z68 I75_0 c78 t119) (v_X11_rekey_125_31 (F := F) G123 G_75 a x119 G p0 p1 p2 l4_75 x39 x55 hG123 hM mp z36 z36a z36b t39 c42 t55 c58 z68 I75_0 c78 t119) (by decide) (by decide) (by decide) hT hS (lv_sub hl [1, 2, 3, 4, 0] rfl)
                · refine lv_aload_n hx hb dX11_rekey_81 rfl (lv_at hl 0 rfl) ?_
                  refine gX11_1 S hK hT ha kf_X11_9 dX11_rekey_82 (fun _ _ => ?_)
                  refine lv_iload_n hx hb dX11_rekey_85 rfl (lv_at hl 1 rfl) ?_
                  refine lv_iload_n hx hb dX11_rekey_86 rfl (lv_at hl 3 rfl) ?_
                  refine x_clp (x_runS (As := [.int p0, .int p2]) (rest := [.ref (F a 1)]) S (c_X11_at l E K F G_75 H p0 p2) ms_X11_at km_X11_156 rfl rfl ⟨Nat.le_of_ble_eq_true rfl, Nat.le_of_ble_eq_true rfl⟩ hK (fun _ => XPh.blind) (fun U hU hW => XPh.at hK hz hS hT hU hW) rfl hl.1 (Nat.le_of_ble_eq_true rfl) dX11_rekey_87 ⟨Nat.le_of_ble_eq_true rfl, Nat.le_of_ble_eq_true rfl⟩) hS ?_
                  rintro _ _ locs ⟨x87, rfl, t87⟩ hS
                  have t87 : 0 ≤ p0.toInt ∧ p0.toInt ≤ 2 ∧ 0 ≤ p2.toInt ∧ p2.toInt ≤ 29 → x87.toInt = 4 * (30 * p0.toInt + p2.toInt) := t87
                  refine lv_iload hx hb dX11_rekey_90 (lv_at hl 4 rfl) ?_
                  refine xi_iadd hx hb (rfl : Int32.toInt x87 = x87.toInt) (rfl : Int32.toInt l4_75 = l4_75.toInt) dX11_rekey_92 (fun x92 t92 => ?_)
                  refine lv_aload_n hx hb dX11_rekey_93 rfl (lv_at hl 0 rfl) ?_
                  refine gX11_1 S hK hT ha kf_X11_9 dX11_rekey_94 (fun _ _ => ?_)
                  refine lv_iload_n hx hb dX11_rekey_97 rfl (lv_at hl 1 rfl) ?_
                  refine lv_iload_n hx hb dX11_rekey_98 rfl (lv_at hl 2 rfl) ?_
                  refine x_clp (x_runS (As := [.int p0, .int p1]) (rest := [.ref (F a 1), .int x92, .ref (F a 1)]) S (c_X11_at l E K F G_75 H p0 p1) ms_X11_at km_X11_156 rfl rfl ⟨Nat.le_of_ble_eq_true rfl, Nat.le_of_ble_eq_true rfl⟩ hK (fun _ => XPh.blind) (fun U hU hW => XPh.at hK hz hS hT hU hW) rfl hl.1 (Nat.le_of_ble_eq_true rfl) dX11_rekey_99 ⟨Nat.le_of_ble_eq_true rfl, Nat.le_of_ble_eq_true rfl⟩) hS ?_
                  rintro _ _ locs ⟨x99, rfl, t99⟩ hS
                  have t99 : 0 ≤ p0.toInt ∧ p0.toInt ≤ 2 ∧ 0 ≤ p1.toInt ∧ p1.toInt ≤ 29 → x99.toInt = 4 * (30 * p0.toInt + p1.toInt) := t99
                  refine lv_iload hx hb dX11_rekey_102 (lv_at hl 4 rfl) ?_
                  refine xi_iadd hx hb (rfl : Int32.toInt x99 = x99.toInt) (rfl : Int32.toInt l4_75 = l4_75.toInt) dX11_rekey_104 (fun x104 t104 => ?_)
                  refine al_0 S hK hT hk9999c ar_30 (by decide) (z_X11_rekey_54 l4_75.toInt p0.toInt p1.toInt x104.toInt x99.toInt z36 z36a I75_0 c78 t99 t104) dX11_rekey_105 (fun x105 hv105 o105 => ?_)
                  have hv105 : x105.toInt = (aI (G_75.2.1 (F a 1)) (0 + 4 * (30 * p0.toInt + p1.toInt) + l4_75.toInt)) := hv105.trans (by rw [((rfl : Int32.toInt x104 = x104.toInt).trans (z_X11_rekey_55 l4_75.toInt p0.toInt p1.toInt x104.toInt x99.toInt z36 z36a I75_0 t99 t104))])
                  refine as_0 (x := x105) S hK hT hS hk9999c ar_30 aw_30 (by decide) (z_X11_rekey_56 l4_75.toInt p0.toInt p2.toInt x87.toInt x92.toInt z36 z36b I75_0 c78 t87 t92) dX11_rekey_106 (fun H locs hT hS => ?_)
                  obtain ⟨G106, hG106⟩ : ∃ GG : XG, GG = cput G_75 (F a 1) x92.toNatClampNeg x105 := ⟨_, rfl⟩
                  rw [← hG106] at hT
                  refine xi_iinc (n := 1) (lv' := fun z9 => [(4, .int z9), (0, .ref a), (1, .int p0), (2, .int p1), (3, .int p2)]) (k := 4) hx hb (rfl : Int32.toInt l4_75 = l4_75.toInt) (by decide) dX11_rekey_107 hl rfl (by decide) (fun _ => rfl) (fun x107 ls t107 hl => ?_)
                  have e107 : x107.toInt = (l4_75.toInt + 1) := (z_X11_rekey_57 l4_75.toInt x107.toInt I75_0 t107)
                  have hl : lv_has ls 7 [(4, .int x107), (0, .ref a), (1, .int p0), (2, .int p1), (3, .int p2)] := hl
                  refine lv_goto (tgt := 75) hx hb dX11_rekey_110 (by decide) ?_
                  exact ih75 x107 G106 _ _ _ (by rw [hG106]; exact XFr.cput (XFr.call XFr.rf hF_75 xm0 (xm1 0 rfl xm0) xm0) (List.mem_of_getElem? (i := 0) rfl)) (by rw [(e107 : Int32.toInt x107 = (l4_75.toInt + 1))] <;> exact (v_X11_rekey_110_32 (K := K) (F := F) a G G6 G_75 G106 x92 x105 p0 p1 p2 l4_75 x10 x17 x24 x39 x55 N75 x87 x99 ha hG106 mp hv105 am t6 t10 c13 t17 c20 t24 c27 z36 z36a z36b t39 c42 t55 c58 z68 I75_0 I75_1 hm75 c78 t87 t92 t99)) (by rw [(e107 : Int32.toInt x107 = (l4_75.toInt + 1))] <;> exact (z_X11_rekey_58 l4_75.toInt I75_0 c78)) (by rw [(e107 : Int32.toInt x107 = (l4_75.toInt + 1))] <;> exact (z_X11_rekey_59 l4_75.toInt I75_0)) (by rw [(e107 : Int32.toInt x107 = (l4_75.toInt + 1))] <;> exact (z_X11_rekey_16 l4_75.toInt N75 hm75)) hT hS (lv_sub hl [1, 2, 3, 4, 0] rfl)
            exact L75 4294967297 0 G69 _ _ _ XFr.rf (by rw [(show G69.2.1 (F a 1) = G.2.1 (F a 1) from ((hF69.2.1 _ (xn1 (xne_k hk9999c hk9999k (by decide)) (xn1 (xne_k hk9999c hk9999l (by decide)) xn0))).trans ((hF6.2.1 _ xn0).trans (ld_c hG2))))] <;> exact (v_X11_rekey_73_33 (K := K) (F := F) a G G6 x10 p0 x17 p1 x24 p2 x39 x55 ha am t6 t10 c13 t17 c20 t24 c27 z36 z36a z36b t39 c42 t55 c58 z68)) (by decide) (by decide) (by decide) hT hS (lv_sub hl [1, 2, 3, 4, 0] rfl)
          · refine lv_aload_n hx hb dX11_rekey_61 rfl (lv_at hl 0 rfl) ?_
            refine lv_bipush (v := (-4)) hx hb dX11_rekey_62 (by decide) ?_
            refine x_cl0 (x_runV (b := a) (As := [.int (-4)]) (rest := []) S (c_X11_refuses l E K F G6 a (-4) ha) mv_X11_refuses km_X11_325 rfl rfl ⟨Nat.le_of_ble_eq_true rfl, Nat.le_of_ble_eq_true rfl⟩ (rc_13 hK hT ha) hK (fun _ => XP.blind) (fun U hU hW => XP.at hK hz hS hT hU hW) rfl hl.1 (Nat.le_of_ble_eq_true rfl) dX11_rekey_64 ⟨Nat.le_of_ble_eq_true rfl, Nat.le_of_ble_eq_true rfl⟩) hS ?_
            rintro _ G64 H locs ⟨x64, rfl, hF64, t64⟩ hT hS
            have t64 : x64.toInt = (-4 : Int) := by rw [((by decide) : Int32.toInt (-4) = (-4 : Int))] at t64; exact t64
            exact x_ri hx hb hr hlk hQ (Nat.le_of_ble_eq_true rfl) (Nat.le_of_ble_eq_true rfl) hS dX11_rekey_67 G64 ⟨_, rfl, (XFr.call (XFr.call (by rw [hG2]; exact XFr.dput XFr.rf (List.mem_of_getElem? (i := 9) rfl)) hF6 (xm1 2 rfl (xm1 3 rfl (xm1 4 rfl xm0))) xm0 xm0) hF64 xm0 (xm1 4 rfl xm0) xm0), (by rw [(show (G64.1 a 23).toInt = ((G6.1 a 23).toInt) from (congrArg Int32.toInt (hF64.1 _ _ xn0)).trans (rfl : Int32.toInt (G6.1 a 23) = ((G6.1 a 23).toInt))), (show (G64.1 a 43).toInt = ((G.1 a 43).toInt) from (congrArg Int32.toInt ((hF64.1 _ _ xn0).trans ((hF6.1 _ _ (xnj (by decide) (xnj (by decide) (xnj (by decide) xn0)))).trans (ld_j hG2 (by decide))))).trans (rfl : Int32.toInt (G.1 a 43) = ((G.1 a 43).toInt)))] <;> exact (z_X11_rekey_1 ((G.1 a 43).toInt) ((G6.1 a 20).toInt) ((G6.1 a 21).toInt) ((G6.1 a 23).toInt) am t6)), (by rw [(t64 : Int32.toInt x64 = (-4 : Int))] <;> exact (v_X11_rekey_67_34 (F := F) p0 p1 p2 x39 G a x55 G64 z36 z36a z36b t39 c42 t55 c58 ((hF64.2.1 _ (xn1 (xne_k hk9999c hk9999d (by decide)) xn0)).trans ((hF6.2.1 _ xn0).trans (ld_c hG2))))), (v_X11_rekey_67_35 (F := F) a G G64 hM ((hF64.2.1 _ (xn1 (xne_k hk9999c hk9999d (by decide)) xn0)).trans ((hF6.2.1 _ xn0).trans (ld_c hG2))))⟩ hT
        · refine lv_aload_n hx hb dX11_rekey_45 rfl (lv_at hl 0 rfl) ?_
          refine lv_bipush (v := (-2)) hx hb dX11_rekey_46 (by decide) ?_
          refine x_cl0 (x_runV (b := a) (As := [.int (-2)]) (rest := []) S (c_X11_refuses l E K F G6 a (-2) ha) mv_X11_refuses km_X11_325 rfl rfl ⟨Nat.le_of_ble_eq_true rfl, Nat.le_of_ble_eq_true rfl⟩ (rc_13 hK hT ha) hK (fun _ => XP.blind) (fun U hU hW => XP.at hK hz hS hT hU hW) rfl hl.1 (Nat.le_of_ble_eq_true rfl) dX11_rekey_48 ⟨Nat.le_of_ble_eq_true rfl, Nat.le_of_ble_eq_true rfl⟩) hS ?_
          rintro _ G48 H locs ⟨x48, rfl, hF48, t48⟩ hT hS
          have t48 : x48.toInt = (-2 : Int) := by rw [((by decide) : Int32.toInt (-2) = (-2 : Int))] at t48; exact t48
          exact x_ri hx hb hr hlk hQ (Nat.le_of_ble_eq_true rfl) (Nat.le_of_ble_eq_true rfl) hS dX11_rekey_51 G48 ⟨_, rfl, (XFr.call (XFr.call (by rw [hG2]; exact XFr.dput XFr.rf (List.mem_of_getElem? (i := 9) rfl)) hF6 (xm1 2 rfl (xm1 3 rfl (xm1 4 rfl xm0))) xm0 xm0) hF48 xm0 (xm1 4 rfl xm0) xm0), (by rw [(show (G48.1 a 23).toInt = ((G6.1 a 23).toInt) from (congrArg Int32.toInt (hF48.1 _ _ xn0)).trans (rfl : Int32.toInt (G6.1 a 23) = ((G6.1 a 23).toInt))), (show (G48.1 a 43).toInt = ((G.1 a 43).toInt) from (congrArg Int32.toInt ((hF48.1 _ _ xn0).trans ((hF6.1 _ _ (xnj (by decide) (xnj (by decide) (xnj (by decide) xn0)))).trans (ld_j hG2 (by decide))))).trans (rfl : Int32.toInt (G.1 a 43) = ((G.1 a 43).toInt)))] <;> exact (z_X11_rekey_1 ((G.1 a 43).toInt) ((G6.1 a 20).toInt) ((G6.1 a 21).toInt) ((G6.1 a 23).toInt) am t6)), (by rw [(t48 : Int32.toInt x48 = (-2 : Int))] <;> exact (v_X11_rekey_51_36 (F := F) p0 p1 p2 x39 G a G48 z36 z36a z36b t39 c42 ((hF48.2.1 _ (xn1 (xne_k hk9999c hk9999d (by decide)) xn0)).trans ((hF6.2.1 _ xn0).trans (ld_c hG2))))), (v_X11_rekey_51_37 (F := F) a G G48 hM ((hF48.2.1 _ (xn1 (xne_k hk9999c hk9999d (by decide)) xn0)).trans ((hF6.2.1 _ xn0).trans (ld_c hG2))))⟩ hT
      · refine lv_aload_n hx hb dX11_rekey_30 rfl (lv_at hl 0 rfl) ?_
        refine lv_iconst (v := (-1)) hx hb dX11_rekey_31 (by decide) ?_
        refine x_cl0 (x_runV (b := a) (As := [.int (-1)]) (rest := []) S (c_X11_refuses l E K F G6 a (-1) ha) mv_X11_refuses km_X11_325 rfl rfl ⟨Nat.le_of_ble_eq_true rfl, Nat.le_of_ble_eq_true rfl⟩ (rc_13 hK hT ha) hK (fun _ => XP.blind) (fun U hU hW => XP.at hK hz hS hT hU hW) rfl hl.1 (Nat.le_of_ble_eq_true rfl) dX11_rekey_32 ⟨Nat.le_of_ble_eq_true rfl, Nat.le_of_ble_eq_true rfl⟩) hS ?_
        rintro _ G32 H locs ⟨x32, rfl, hF32, t32⟩ hT hS
        have t32 : x32.toInt = (-1 : Int) := by rw [((by decide) : Int32.toInt (-1) = (-1 : Int))] at t32; exact t32
        exact x_ri hx hb hr hlk hQ (Nat.le_of_ble_eq_true rfl) (Nat.le_of_ble_eq_true rfl) hS dX11_rekey_35 G32 ⟨_, rfl, (XFr.call (XFr.call (by rw [hG2]; exact XFr.dput XFr.rf (List.mem_of_getElem? (i := 9) rfl)) hF6 (xm1 2 rfl (xm1 3 rfl (xm1 4 rfl xm0))) xm0 xm0) hF32 xm0 (xm1 4 rfl xm0) xm0), (by rw [(show (G32.1 a 23).toInt = ((G6.1 a 23).toInt) from (congrArg Int32.toInt (hF32.1 _ _ xn0)).trans (rfl : Int32.toInt (G6.1 a 23) = ((G6.1 a 23).toInt))), (show (G32.1 a 43).toInt = ((G.1 a 43).toInt) from (congrArg Int32.toInt ((hF32.1 _ _ xn0).trans ((hF6.1 _ _ (xnj (by decide) (xnj (by decide) (xnj (by decide) xn0)))).trans (ld_j hG2 (by decide))))).trans (rfl : Int32.toInt (G.1 a 43) = ((G.1 a 43).toInt)))] <;> exact (z_X11_rekey_1 ((G.1 a 43).toInt) ((G6.1 a 20).toInt) ((G6.1 a 21).toInt) ((G6.1 a 23).toInt) am t6)), (by rw [(t32 : Int32.toInt x32 = (-1 : Int))] <;> exact (v_X11_rekey_35_38 (F := F) x24 p2 G32 a G p0 p1 t24 c27 ((hF32.2.1 _ (xn1 (xne_k hk9999c hk9999d (by decide)) xn0)).trans ((hF6.2.1 _ xn0).trans (ld_c hG2))))), (v_X11_rekey_35_39 (F := F) a G G32 hM ((hF32.2.1 _ (xn1 (xne_k hk9999c hk9999d (by decide)) xn0)).trans ((hF6.2.1 _ xn0).trans (ld_c hG2))))⟩ hT
/-! a question of a rule that is not late fails -/
def PFl (f : Nat → Int32) (r : Int → Int) : Prop := ∃ q s : Int, (0 ≤ q ∧ q ≤ 11) ∧ aI f (10 * q + 0) ≠ -1 ∧ aI f (10 * q + 6) = 0 ∧ sbj (aI f (10 * q + 0)) s ∧ fzq f r q s = 1
theorem ordN_all {pr : Nat → Bool} {rk : Nat → Int} {n q : Nat} (hq : q < n) (hp : pr q = true) : ∃ i, i < (ordN pr rk n).1 ∧ (ordN pr rk n).2 i = q := by
  induction n with
  | zero => omega
  | succ n ih =>
    cases hn : pr n with
    | false =>
      rw [ordN_f hn]
      exact ih (by
        have : q ≠ n := fun e => by rw [e, hn] at hp; cases hp
        omega)
    | true =>
      rw [ordN_t hn]
      have hpos : posR (fun i => rk ((ordN pr rk n).2 i)) (rk n) (ordN pr rk n).1 ≤ (ordN pr rk n).1 := posR_le _ _ _
      by_cases e : q = n
      · subst e
        refine ⟨posR (fun i => rk ((ordN pr rk q).2 i)) (rk q) (ordN pr rk q).1, Nat.lt_succ_of_le hpos, ?_⟩
        show insF _ _ _ _ = q
        unfold insF
        simp
      · obtain ⟨i, h1, h2⟩ := ih (by omega)
        by_cases g : i < posR (fun i => rk ((ordN pr rk n).2 i)) (rk n) (ordN pr rk n).1
        · refine ⟨i, Nat.lt_succ_of_lt h1, ?_⟩
          show insF _ _ _ _ = q
          unfold insF
          rw [if_pos g]
          exact h2
        · refine ⟨i + 1, Nat.succ_lt_succ h1, ?_⟩
          show insF _ _ _ _ = q
          unfold insF
          rw [if_neg (by omega), if_neg (by omega)]
          exact h2
theorem v_X11_commit_20_1 {F : Nat → Nat → Nat} (a : Nat) (G : XG) (G6 : XG)
    (hR : RV (G.2.1 (F a 10)))
    (c_G6_F_a_10 : G6.2.1 (F a 10) = G.2.1 (F a 10)) :
    RV (G6.2.1 (F a 10)) := by simp only [c_G6_F_a_10]; assumption
theorem v_X11_commit_20_2 {F : Nat → Nat → Nat} (a : Nat) (G : XG) (G6 : XG)
    (hM : RM (G.2.1 (F a 1)) (0))
    (hB : RM (G.2.1 (F a 2)) 0)
    (c_G6_F_a_1 : G6.2.1 (F a 1) = G.2.1 (F a 1)) :
    RM (G6.2.1 (F a 1)) (0) := by simp only [c_G6_F_a_1]; assumption
theorem v_X11_commit_20_3 {F : Nat → Nat → Nat} (a : Nat) (G : XG) (G6 : XG)
    (hM : RM (G.2.1 (F a 1)) (0))
    (hB : RM (G.2.1 (F a 2)) 0)
    (c_G6_F_a_2 : G6.2.1 (F a 2) = G.2.1 (F a 2)) :
    RM (G6.2.1 (F a 2)) 0 := by simp only [c_G6_F_a_2]; assumption
theorem v_X11_commit_23_4 {K : Nat → Nat} {F : Nat → Nat → Nat} (a : Nat) (G : XG) (G6 : XG) (G20 : XG)
    (ha : K a = 13)
    (oq20 : pL G20 F a = if ((G.1 a 6).toInt) = 0 then [] else fuO (G.2.1 (F a 10)) (mw (G.2.1 (F a 1)) 0) (mw (G.2.1 (F a 2)) 0) 1)
    (oq20a : ((G.1 a 6).toInt) ≠ 0 → LSt (G.2.1 (F a 10)) (G20.2.1 (F a 11)) (mw (G.2.1 (F a 1)) 0) 12 ∧ LSt (G.2.1 (F a 10)) (G20.2.1 (F a 13)) (mw (G.2.1 (F a 2)) 0) 12)
    (oq20b : G20.2.2.2 = G6.2.2.2)
    (am : 0 ≤ ((G.1 a 43).toInt) ∧ ((G.1 a 43).toInt) ≤ 2388)
    (t6 : ((G6.1 a 20).toInt) = -2147483648 ∧ ((G6.1 a 21).toInt) = -2147483648 ∧ ((G6.1 a 23).toInt) = 0)
    (f36 : ((G.1 a 6).toInt) = 0 ∨ ((G.1 a 6).toInt) = 1)
    (c13 : ((G.1 a 6).toInt) ≠ 0)
    (t20 : 0 ≤ ((G20.1 a 19).toInt) ∧ ((G20.1 a 19).toInt) ≤ 2388) :
    PV (G.2.1 (F a 10)) (pL G20 F a) := by
  rw [oq20, if_neg (by omega)]; exact fuO_pv _ _ _ _
theorem v_X11_commit_25_5 {F : Nat → Nat → Nat} (a : Nat) (G : XG) (G20 : XG)
    (hR : RV (G.2.1 (F a 10)))
    (c_G20_F_a_10 : G20.2.1 (F a 10) = G.2.1 (F a 10)) :
    RV (G20.2.1 (F a 10)) := by simp only [c_G20_F_a_10]; assumption
theorem v_X11_commit_25_6 {F : Nat → Nat → Nat} (a : Nat) (G : XG) (G20 : XG)
    (hM : RM (G.2.1 (F a 1)) (0))
    (hB : RM (G.2.1 (F a 2)) 0)
    (c_G20_F_a_1 : G20.2.1 (F a 1) = G.2.1 (F a 1)) :
    RM (G20.2.1 (F a 1)) (0) := by simp only [c_G20_F_a_1]; assumption
theorem v_X11_commit_25_7 {F : Nat → Nat → Nat} (a : Nat) (G : XG) (G20 : XG)
    (hv20 : PV (G.2.1 (F a 10)) (pL G20 F a))
    (c_G20_F_a_10 : G20.2.1 (F a 10) = G.2.1 (F a 10)) :
    PV (G20.2.1 (F a 10)) (pL G20 F a) := by
  first | exact hv20 | (simp only [c_G20_F_a_10]; exact hv20)
theorem v_X11_commit_110_8 {K : Nat → Nat} {F : Nat → Nat → Nat} (a : Nat) (G : XG) (G6 : XG) (G20 : XG) (G28 : XG) (x25 : Int32) (G32 : XG) (G105 : XG)
    (ha : K a = 13)
    (oq20 : pL G20 F a = if ((G.1 a 6).toInt) = 0 then [] else fuO (G.2.1 (F a 10)) (mw (G.2.1 (F a 1)) 0) (mw (G.2.1 (F a 2)) 0) 1)
    (oq20a : ((G.1 a 6).toInt) ≠ 0 → LSt (G.2.1 (F a 10)) (G20.2.1 (F a 11)) (mw (G.2.1 (F a 1)) 0) 12 ∧ LSt (G.2.1 (F a 10)) (G20.2.1 (F a 13)) (mw (G.2.1 (F a 2)) 0) 12)
    (oq20b : G20.2.2.2 = G6.2.2.2)
    (oq25 : x25.toInt = ffP (G.2.1 (F a 10)) (mw (G.2.1 (F a 1)) 0) (pL G20 F a))
    (oq32 : ((G28.1 a 46).toInt) < ((G20.1 a 19).toInt) → aL G32 F a = (pL G28 F a).take ((G32.1 a 43).toInt).toNat)
    (am : 0 ≤ ((G.1 a 43).toInt) ∧ ((G.1 a 43).toInt) ≤ 2388)
    (t6 : ((G6.1 a 20).toInt) = -2147483648 ∧ ((G6.1 a 21).toInt) = -2147483648 ∧ ((G6.1 a 23).toInt) = 0)
    (f44 : ((G.1 a 6).toInt) = 0 ∨ ((G.1 a 6).toInt) = 1)
    (c13 : ((G.1 a 6).toInt) ≠ 0)
    (t20 : 0 ≤ ((G20.1 a 19).toInt) ∧ ((G20.1 a 19).toInt) ≤ 2388)
    (t25 : -1 ≤ x25.toInt ∧ x25.toInt < ((G20.1 a 19).toInt))
    (t32 : 0 ≤ ((G32.1 a 43).toInt) ∧ ((G32.1 a 43).toInt) ≤ 2388 ∧ ((G32.1 a 44).toInt) = x25.toInt ∧ ((x25.toInt = -1 ∧ ((G32.1 a 43).toInt) = ((G20.1 a 19).toInt)) ∨ (x25.toInt ≠ -1 ∧ ((G32.1 a 43).toInt) = x25.toInt + 1)))
    (c45 : x25.toInt = (-1 : Int))
    (c_G105_F_a_1 : G105.2.1 (F a 1) = G.2.1 (F a 1)) :
    (((G.1 a 6).toInt) = 0 ∧ G105.2.1 (F a 1) = (G.2.1 (F a 1))) ∨ (((G.1 a 6).toInt) ≠ 0 ∧ ((ffP (G.2.1 (F a 10)) (mw (G.2.1 (F a 1)) 0) (fuO (G.2.1 (F a 10)) (mw (G.2.1 (F a 1)) 0) (mw (G.2.1 (F a 2)) 0) 1) ≠ -1 ∧ ((G32.1 a 43).toInt) = -5 ∧ mw (G105.2.1 (F a 1)) 0 = mw (G.2.1 (F a 2)) 0) ∨ (ffP (G.2.1 (F a 10)) (mw (G.2.1 (F a 1)) 0) (fuO (G.2.1 (F a 10)) (mw (G.2.1 (F a 1)) 0) (mw (G.2.1 (F a 2)) 0) 1) = -1 ∧ mw (G105.2.1 (F a 1)) 0 = (mw (G.2.1 (F a 1)) 0) ∧ ((G32.1 a 43).toInt) = (((fuO (G.2.1 (F a 10)) (mw (G.2.1 (F a 1)) 0) (mw (G.2.1 (F a 2)) 0) 1).length : Nat) : Int)))) := by
  have e := pL_len G20 F a
  rw [oq20, if_neg (by omega)] at e
  rw [oq20, if_neg (by omega)] at oq25
  exact Or.inr ⟨by omega, Or.inr ⟨by rw [← oq25]; omega, by rw [c_G105_F_a_1], by omega⟩⟩
theorem v_X11_commit_110_9 {F : Nat → Nat → Nat} (a : Nat) (G : XG) (G105 : XG)
    (hM : RM (G.2.1 (F a 1)) (0))
    (c_G105_F_a_1 : G105.2.1 (F a 1) = G.2.1 (F a 1)) :
    RM (G105.2.1 (F a 1)) 0 := by
  rw [c_G105_F_a_1]; exact hM
theorem v_X11_commit_80_10 {K : Nat → Nat} {F : Nat → Nat → Nat} (a : Nat) (G2 : XG) (G : XG) (G6 : XG) (G20 : XG) (G28 : XG) (x25 : Int32) (G32 : XG) (G37 : XG) (G67 : XG) (x57 : Int32) (x66 : Int32)
    (ha : K a = 13)
    (hk9999 : K (F a 15) = 42)
    (hj9999 : F (F a 15) 99 = 15)
    (hk9999a : K (F a 17) = 43)
    (hj9999a : F (F a 17) 99 = 17)
    (hk9999b : K (F a 18) = 44)
    (hj9999b : F (F a 18) 99 = 18)
    (hk9999c : K (F a 11) = 38)
    (hj9999c : F (F a 11) 99 = 11)
    (hk9999d : K (F a 13) = 38)
    (hj9999d : F (F a 13) 99 = 13)
    (hk9999e : K (F a 22) = 45)
    (hj9999e : F (F a 22) 99 = 22)
    (hk9999f : K (F a 41) = 53)
    (hj9999f : F (F a 41) 99 = 41)
    (hk9999g : K (F a 42) = 54)
    (hj9999g : F (F a 42) 99 = 42)
    (hk9999h : K (F a 9) = 36)
    (hj9999h : F (F a 9) 99 = 9)
    (hk9999i : K (F a 1) = 30)
    (hj9999i : F (F a 1) 99 = 1)
    (hk9999j : K (F a 10) = 37)
    (hj9999j : F (F a 10) 99 = 10)
    (hk9999k : K (F a 2) = 31)
    (hj9999k : F (F a 2) 99 = 2)
    (hG2 : G2 = dput G a 0 0)
    (hF6 : XFr [(a, 20), (a, 21), (a, 23)] [] [] G2 G6)
    (hF20 : XFr [(a, 16), (a, 19)] [F a 15, F a 17, F a 18, F a 11, F a 13] [] G6 G20)
    (hG28 : G28 = dput G20 a 46 x25)
    (hF32 : XFr [(a, 43), (a, 44)] [F a 41, F a 42, F a 9] [] G28 G32)
    (hG37 : G37 = dput G32 a 6 0)
    (hF67 : XFr [(a, 20), (a, 21), (a, 23)] [F a 22] [] G37 G67)
    (hR : RV (G.2.1 (F a 10)))
    (hM : RM (G.2.1 (F a 1)) (0))
    (hB : RM (G.2.1 (F a 2)) 0)
    (oq20 : pL G20 F a = if ((G.1 a 6).toInt) = 0 then [] else fuO (G.2.1 (F a 10)) (mw (G.2.1 (F a 1)) 0) (mw (G.2.1 (F a 2)) 0) 1)
    (oq20a : ((G.1 a 6).toInt) ≠ 0 → LSt (G.2.1 (F a 10)) (G20.2.1 (F a 11)) (mw (G.2.1 (F a 1)) 0) 12 ∧ LSt (G.2.1 (F a 10)) (G20.2.1 (F a 13)) (mw (G.2.1 (F a 2)) 0) 12)
    (oq20b : G20.2.2.2 = G6.2.2.2)
    (hv20 : PV (G.2.1 (F a 10)) (pL G20 F a))
    (oq25 : x25.toInt = ffP (G.2.1 (F a 10)) (mw (G.2.1 (F a 1)) 0) (pL G20 F a))
    (oq32 : ((G28.1 a 46).toInt) < ((G20.1 a 19).toInt) → aL G32 F a = (pL G28 F a).take ((G32.1 a 43).toInt).toNat)
    (hv57 : x57.toInt = (aI (G20.2.1 (F a 17)) (x25.toInt)))
    (hv66 : x66.toInt = (aI (G20.2.1 (F a 18)) (x25.toInt)))
    (am : 0 ≤ ((G.1 a 43).toInt) ∧ ((G.1 a 43).toInt) ≤ 2388)
    (t6 : ((G6.1 a 20).toInt) = -2147483648 ∧ ((G6.1 a 21).toInt) = -2147483648 ∧ ((G6.1 a 23).toInt) = 0)
    (f45 : ((G.1 a 6).toInt) = 0 ∨ ((G.1 a 6).toInt) = 1)
    (c13 : ((G.1 a 6).toInt) ≠ 0)
    (t20 : 0 ≤ ((G20.1 a 19).toInt) ∧ ((G20.1 a 19).toInt) ≤ 2388)
    (t25 : -1 ≤ x25.toInt ∧ x25.toInt < ((G20.1 a 19).toInt))
    (t32 : 0 ≤ ((G32.1 a 43).toInt) ∧ ((G32.1 a 43).toInt) ≤ 2388 ∧ ((G32.1 a 44).toInt) = x25.toInt ∧ ((x25.toInt = -1 ∧ ((G32.1 a 43).toInt) = ((G20.1 a 19).toInt)) ∨ (x25.toInt ≠ -1 ∧ ((G32.1 a 43).toInt) = x25.toInt + 1)))
    (c45 : ¬ (x25.toInt = (-1 : Int)))
    (z48 : (0 ≤ (aI (G20.2.1 (F a 17)) (x25.toInt)) ∧ (aI (G20.2.1 (F a 17)) (x25.toInt)) ≤ 11) ∧ (aI (G.2.1 (F a 10)) (10 * aI (G20.2.1 (F a 17)) (x25.toInt) + 0)) ≠ -1 ∧ ((sF (aI (G.2.1 (F a 10)) (10 * aI (G20.2.1 (F a 17)) (x25.toInt) + 0))) ≤ (aI (G20.2.1 (F a 18)) (x25.toInt)) ∧ (aI (G20.2.1 (F a 18)) (x25.toInt)) ≤ (sL (aI (G.2.1 (F a 10)) (10 * aI (G20.2.1 (F a 17)) (x25.toInt) + 0)))))
    (z48a : ((sF (aI (G.2.1 (F a 10)) (10 * aI (G20.2.1 (F a 17)) (x25.toInt) + 0))) = 0 ∨ (sF (aI (G.2.1 (F a 10)) (10 * aI (G20.2.1 (F a 17)) (x25.toInt) + 0))) = -99) ∧ ((sL (aI (G.2.1 (F a 10)) (10 * aI (G20.2.1 (F a 17)) (x25.toInt) + 0))) = 29 ∨ (sL (aI (G.2.1 (F a 10)) (10 * aI (G20.2.1 (F a 17)) (x25.toInt) + 0))) = 99))
    (t67 : ((G67.1 a 20).toInt) = (aI (G20.2.1 (F a 17)) (x25.toInt)) ∧ ((G67.1 a 21).toInt) = (aI (G20.2.1 (F a 18)) (x25.toInt)) ∧ 0 ≤ ((G67.1 a 23).toInt) ∧ ((G67.1 a 23).toInt) ≤ 24)
    (c_G6_F_a_1 : G6.2.1 (F a 1) = G.2.1 (F a 1))
    (c_G67_F_a_1 : G67.2.1 (F a 1) = G.2.1 (F a 1))
    (c_G67_F_a_11 : G67.2.1 (F a 11) = G20.2.1 (F a 11))
    (c_G67_F_a_13 : G67.2.1 (F a 13) = G20.2.1 (F a 13))
    (c_G67_F_a_15 : G67.2.1 (F a 15) = G20.2.1 (F a 15))
    (c_G67_F_a_17 : G67.2.1 (F a 17) = G20.2.1 (F a 17))
    (c_G67_F_a_18 : G67.2.1 (F a 18) = G20.2.1 (F a 18))
    (c_G67_F_a_2 : G67.2.1 (F a 2) = G.2.1 (F a 2))
    (c_G67_F_a_41 : G67.2.1 (F a 41) = G32.2.1 (F a 41))
    (c_G67_F_a_42 : G67.2.1 (F a 42) = G32.2.1 (F a 42))
    (c_G67_F_a_9 : G67.2.1 (F a 9) = G32.2.1 (F a 9))
    (d_G28_a_46 : G28.1 a 46 = x25)
    (d_G67_a_0 : G67.1 a 0 = 0)
    (d_G67_a_16 : G67.1 a 16 = G20.1 a 16)
    (d_G67_a_19 : G67.1 a 19 = G20.1 a 19)
    (d_G67_a_43 : G67.1 a 43 = G32.1 a 43)
    (d_G67_a_44 : G67.1 a 44 = G32.1 a 44)
    (d_G67_a_46 : G67.1 a 46 = x25)
    (d_G67_a_6 : G67.1 a 6 = 0) :
    (F a 2) ≠ (F a 1) := by
  intro e
  have h1 : K (F a 1) = 30 := by assumption
  have h2 : K (F a 2) = 31 := by assumption
  rw [← e, h2] at h1
  exact absurd h1 (by decide)
theorem v_X11_commit_95_11 {K : Nat → Nat} {F : Nat → Nat → Nat} (a : Nat) (G : XG) (G6 : XG) (G20 : XG) (G28 : XG) (x25 : Int32) (G32 : XG) (G67 : XG) (G80 : XG) (G92 : XG)
    (ha : K a = 13)
    (oq20 : pL G20 F a = if ((G.1 a 6).toInt) = 0 then [] else fuO (G.2.1 (F a 10)) (mw (G.2.1 (F a 1)) 0) (mw (G.2.1 (F a 2)) 0) 1)
    (oq20a : ((G.1 a 6).toInt) ≠ 0 → LSt (G.2.1 (F a 10)) (G20.2.1 (F a 11)) (mw (G.2.1 (F a 1)) 0) 12 ∧ LSt (G.2.1 (F a 10)) (G20.2.1 (F a 13)) (mw (G.2.1 (F a 2)) 0) 12)
    (oq20b : G20.2.2.2 = G6.2.2.2)
    (oq25 : x25.toInt = ffP (G.2.1 (F a 10)) (mw (G.2.1 (F a 1)) 0) (pL G20 F a))
    (oq32 : ((G28.1 a 46).toInt) < ((G20.1 a 19).toInt) → aL G32 F a = (pL G28 F a).take ((G32.1 a 43).toInt).toNat)
    (oq80 : CPd (G67.2.1 (F a 2)) (G67.2.1 (F a 1)) (G80.2.1 (F a 1)) (0 : Int) (0 : Int) 360)
    (am : 0 ≤ ((G.1 a 43).toInt) ∧ ((G.1 a 43).toInt) ≤ 2388)
    (t6 : ((G6.1 a 20).toInt) = -2147483648 ∧ ((G6.1 a 21).toInt) = -2147483648 ∧ ((G6.1 a 23).toInt) = 0)
    (f49 : ((G.1 a 6).toInt) = 0 ∨ ((G.1 a 6).toInt) = 1)
    (c13 : ((G.1 a 6).toInt) ≠ 0)
    (t20 : 0 ≤ ((G20.1 a 19).toInt) ∧ ((G20.1 a 19).toInt) ≤ 2388)
    (t25 : -1 ≤ x25.toInt ∧ x25.toInt < ((G20.1 a 19).toInt))
    (t32 : 0 ≤ ((G32.1 a 43).toInt) ∧ ((G32.1 a 43).toInt) ≤ 2388 ∧ ((G32.1 a 44).toInt) = x25.toInt ∧ ((x25.toInt = -1 ∧ ((G32.1 a 43).toInt) = ((G20.1 a 19).toInt)) ∨ (x25.toInt ≠ -1 ∧ ((G32.1 a 43).toInt) = x25.toInt + 1)))
    (c45 : ¬ (x25.toInt = (-1 : Int)))
    (z48 : (0 ≤ (aI (G20.2.1 (F a 17)) (x25.toInt)) ∧ (aI (G20.2.1 (F a 17)) (x25.toInt)) ≤ 11) ∧ (aI (G.2.1 (F a 10)) (10 * aI (G20.2.1 (F a 17)) (x25.toInt) + 0)) ≠ -1 ∧ ((sF (aI (G.2.1 (F a 10)) (10 * aI (G20.2.1 (F a 17)) (x25.toInt) + 0))) ≤ (aI (G20.2.1 (F a 18)) (x25.toInt)) ∧ (aI (G20.2.1 (F a 18)) (x25.toInt)) ≤ (sL (aI (G.2.1 (F a 10)) (10 * aI (G20.2.1 (F a 17)) (x25.toInt) + 0)))))
    (z48a : ((sF (aI (G.2.1 (F a 10)) (10 * aI (G20.2.1 (F a 17)) (x25.toInt) + 0))) = 0 ∨ (sF (aI (G.2.1 (F a 10)) (10 * aI (G20.2.1 (F a 17)) (x25.toInt) + 0))) = -99) ∧ ((sL (aI (G.2.1 (F a 10)) (10 * aI (G20.2.1 (F a 17)) (x25.toInt) + 0))) = 29 ∨ (sL (aI (G.2.1 (F a 10)) (10 * aI (G20.2.1 (F a 17)) (x25.toInt) + 0))) = 99))
    (t67 : ((G67.1 a 20).toInt) = (aI (G20.2.1 (F a 17)) (x25.toInt)) ∧ ((G67.1 a 21).toInt) = (aI (G20.2.1 (F a 18)) (x25.toInt)) ∧ 0 ≤ ((G67.1 a 23).toInt) ∧ ((G67.1 a 23).toInt) ≤ 24)
    (c_G67_F_a_2 : G67.2.1 (F a 2) = G.2.1 (F a 2))
    (c_G92_F_a_1 : G92.2.1 (F a 1) = G80.2.1 (F a 1)) :
    (((G.1 a 6).toInt) = 0 ∧ G92.2.1 (F a 1) = (G.2.1 (F a 1))) ∨ (((G.1 a 6).toInt) ≠ 0 ∧ ((ffP (G.2.1 (F a 10)) (mw (G.2.1 (F a 1)) 0) (fuO (G.2.1 (F a 10)) (mw (G.2.1 (F a 1)) 0) (mw (G.2.1 (F a 2)) 0) 1) ≠ -1 ∧ (-5 : Int) = -5 ∧ mw (G92.2.1 (F a 1)) 0 = mw (G.2.1 (F a 2)) 0) ∨ (ffP (G.2.1 (F a 10)) (mw (G.2.1 (F a 1)) 0) (fuO (G.2.1 (F a 10)) (mw (G.2.1 (F a 1)) 0) (mw (G.2.1 (F a 2)) 0) 1) = -1 ∧ mw (G92.2.1 (F a 1)) 0 = (mw (G.2.1 (F a 1)) 0) ∧ (-5 : Int) = (((fuO (G.2.1 (F a 10)) (mw (G.2.1 (F a 1)) 0) (mw (G.2.1 (F a 2)) 0) 1).length : Nat) : Int)))) := by
  rw [oq20, if_neg (by omega)] at oq25
  exact Or.inr ⟨by omega, Or.inl ⟨by rw [← oq25]; omega, rfl, by rw [c_G92_F_a_1, ← c_G67_F_a_2]; exact CPd.vwm oq80 (by decide)⟩⟩
theorem v_X11_commit_95_12 {F : Nat → Nat → Nat} (a : Nat) (G : XG) (G67 : XG) (G80 : XG) (G92 : XG)
    (hB : RM (G.2.1 (F a 2)) 0)
    (oq80 : CPd (G67.2.1 (F a 2)) (G67.2.1 (F a 1)) (G80.2.1 (F a 1)) (0 : Int) (0 : Int) 360)
    (c_G67_F_a_2 : G67.2.1 (F a 2) = G.2.1 (F a 2))
    (c_G92_F_a_1 : G92.2.1 (F a 1) = G80.2.1 (F a 1)) :
    RM (G92.2.1 (F a 1)) 0 := by
  rw [c_G92_F_a_1]; exact CPd.rm oq80 (by decide) (by rw [c_G67_F_a_2]; exact hB)
theorem v_X11_commit_18_13 {K : Nat → Nat} {F : Nat → Nat → Nat} (a : Nat) (G : XG) (G6 : XG)
    (ha : K a = 13)
    (am : 0 ≤ ((G.1 a 43).toInt) ∧ ((G.1 a 43).toInt) ≤ 2388)
    (t6 : ((G6.1 a 20).toInt) = -2147483648 ∧ ((G6.1 a 21).toInt) = -2147483648 ∧ ((G6.1 a 23).toInt) = 0)
    (f32 : ((G.1 a 6).toInt) = 0 ∨ ((G.1 a 6).toInt) = 1)
    (c13 : ¬ (((G.1 a 6).toInt) ≠ 0))
    (c_G6_F_a_1 : G6.2.1 (F a 1) = G.2.1 (F a 1)) :
    (((G.1 a 6).toInt) = 0 ∧ G6.2.1 (F a 1) = (G.2.1 (F a 1))) ∨ (((G.1 a 6).toInt) ≠ 0 ∧ ((ffP (G.2.1 (F a 10)) (mw (G.2.1 (F a 1)) 0) (fuO (G.2.1 (F a 10)) (mw (G.2.1 (F a 1)) 0) (mw (G.2.1 (F a 2)) 0) 1) ≠ -1 ∧ (-3 : Int) = -5 ∧ mw (G6.2.1 (F a 1)) 0 = mw (G.2.1 (F a 2)) 0) ∨ (ffP (G.2.1 (F a 10)) (mw (G.2.1 (F a 1)) 0) (fuO (G.2.1 (F a 10)) (mw (G.2.1 (F a 1)) 0) (mw (G.2.1 (F a 2)) 0) 1) = -1 ∧ mw (G6.2.1 (F a 1)) 0 = (mw (G.2.1 (F a 1)) 0) ∧ (-3 : Int) = (((fuO (G.2.1 (F a 10)) (mw (G.2.1 (F a 1)) 0) (mw (G.2.1 (F a 2)) 0) 1).length : Nat) : Int)))) := by
  exact Or.inl ⟨by omega, by rw [c_G6_F_a_1]⟩
theorem v_X11_commit_18_14 {F : Nat → Nat → Nat} (a : Nat) (G : XG) (G6 : XG)
    (hM : RM (G.2.1 (F a 1)) (0))
    (c_G6_F_a_1 : G6.2.1 (F a 1) = G.2.1 (F a 1)) :
    RM (G6.2.1 (F a 1)) 0 := by
  rw [c_G6_F_a_1]; exact hM
theorem z_X11_commit_1 (a0 : Int) (h0 : 0 ≤ a0 ∧ a0 ≤ 2388) : 0 ≤ a0 ∧ a0 ≤ 2400 := by omega
theorem z_X11_commit_2 (a0 : Int) (a1 : Int) (h0 : 0 ≤ a1 ∧ a1 ≤ 2388) (h1 : -1 ≤ a0 ∧ a0 < a1) : 0 ≤ a1 ∧ a1 ≤ 2388 ∧ -1 ≤ a0 ∧ a0 < 2388 := by omega
theorem z_X11_commit_3 (a0 : Int) (a1 : Int) (a2 : Int) (a3 : Int) (a4 : Int) (h0 : a2 = -2147483648 ∧ a3 = -2147483648 ∧ a4 = 0) (h1 : a0 ≠ 0) (h2 : 0 ≤ a1) (h3 : a1 ≤ 2388) : ((a0 = 0 ∧ a1 = -3 ∧ (0 : Int) = a0) ∨ (a0 ≠ 0 ∧ (0 : Int) = 0)) ∧ (0 ≤ a4 ∧ a4 ≤ 24) ∧ (0 ≤ a1 ∧ a1 ≤ 2388) := by omega
theorem z_X11_commit_4 (a0 : Int) (a1 : Int) (h0 : -1 ≤ a0 ∧ a0 < a1) (h1 : ¬ (a0 = (-1 : Int))) : 0 ≤ a0 ∧ a0 < a1 := by omega
theorem z_X11_commit_5 (a0 : Int) (a1 : Int) (h0 : 0 ≤ a1 ∧ a1 ≤ 2388) (h1 : -1 ≤ a0 ∧ a0 < a1) (h2 : ¬ (a0 = (-1 : Int))) : 0 ≤ a0 ∧ a0 < ((2400 : Nat) : Int) := by omega
theorem z_X11_commit_8 (a0 : Int) (a1 : Int) (a2 : Int) (h0 : a1 ≤ a0 ∧ a0 ≤ a2) (h1 : a1 = 0 ∨ a1 = -99) (h2 : a2 = 29 ∨ a2 = 99) : -99 ≤ a0 ∧ a0 ≤ 99 := by omega
theorem z_X11_commit_9 (a0 : Int) (a1 : Int) (a2 : Int) (a3 : Int) (a4 : Int) (a5 : Int) (a6 : Int) (h0 : a0 ≠ 0) (h1 : 0 ≤ a1) (h2 : a1 ≤ 2388) (h3 : a2 = a5 ∧ a3 = a6 ∧ 0 ≤ a4 ∧ a4 ≤ 24) : ((a0 = 0 ∧ (-5 : Int) = -3 ∧ (0 : Int) = a0) ∨ (a0 ≠ 0 ∧ (0 : Int) = 0)) ∧ (0 ≤ a4 ∧ a4 ≤ 24) ∧ (0 ≤ a1 ∧ a1 ≤ 2388) := by omega
theorem z_X11_commit_10 (a0 : Int) (a1 : Int) (a2 : Int) (a3 : Int) (a4 : Int) (h0 : 0 ≤ a0 ∧ a0 ≤ 2388) (h1 : a2 = -2147483648 ∧ a3 = -2147483648 ∧ a4 = 0) (h2 : ¬ (a1 ≠ 0)) : ((a1 = 0 ∧ (-3 : Int) = -3 ∧ a1 = a1) ∨ (a1 ≠ 0 ∧ a1 = 0)) ∧ (0 ≤ a4 ∧ a4 ≤ 24) ∧ (0 ≤ a0 ∧ a0 ≤ 2388) := by omega
abbrev rm_X11_commit : Room := { frames := 5, cells := 0, slots := 0, locals := 125 }
set_option maxHeartbeats 4000000 in
set_option maxRecDepth 100000 in
theorem c_X11_commit (l : Launch) (E : XE) (K : Nat → Nat) (F : Nat → Nat → Nat) (G : XG) (a : Nat) (ha : K a = 13) (am : 0 ≤ ((G.1 a 43).toInt) ∧ ((G.1 a 43).toInt) ≤ 2388) (hR : RV (G.2.1 (F a 10))) (hM : RM (G.2.1 (F a 1)) (0)) (hB : RM (G.2.1 (F a 2)) 0) : Met l yX11_commit (xw yX11_commit cX11_commit 1 (some .int)) rm_X11_commit (va_Pc [.ref a] (XP E K F G)) (XQ E (fun v (u : XG) => ∃ r : Int32, v = .int r ∧ XFr [(a, 16), (a, 19), (a, 20), (a, 21), (a, 23), (a, 43), (a, 44), (a, 0), (a, 6), (a, 46)] [F a 15, F a 17, F a 18, F a 11, F a 13, F a 22, F a 41, F a 42, F a 9, F a 1] [] G u ∧ (((((G.1 a 6).toInt) = 0 ∧ r.toInt = -3 ∧ ((u.1 a 6).toInt) = ((G.1 a 6).toInt)) ∨ (((G.1 a 6).toInt) ≠ 0 ∧ ((u.1 a 6).toInt) = 0)) ∧ (0 ≤ ((u.1 a 23).toInt) ∧ ((u.1 a 23).toInt) ≤ 24) ∧ (0 ≤ ((u.1 a 43).toInt) ∧ ((u.1 a 43).toInt) ≤ 2388)) ∧ ((((G.1 a 6).toInt) = 0 ∧ u.2.1 (F a 1) = (G.2.1 (F a 1))) ∨ (((G.1 a 6).toInt) ≠ 0 ∧ ((ffP (G.2.1 (F a 10)) (mw (G.2.1 (F a 1)) 0) (fuO (G.2.1 (F a 10)) (mw (G.2.1 (F a 1)) 0) (mw (G.2.1 (F a 2)) 0) 1) ≠ -1 ∧ r.toInt = -5 ∧ mw (u.2.1 (F a 1)) 0 = mw (G.2.1 (F a 2)) 0) ∨ (ffP (G.2.1 (F a 10)) (mw (G.2.1 (F a 1)) 0) (fuO (G.2.1 (F a 10)) (mw (G.2.1 (F a 1)) 0) (mw (G.2.1 (F a 2)) 0) 1) = -1 ∧ mw (u.2.1 (F a 1)) 0 = (mw (G.2.1 (F a 1)) 0) ∧ r.toInt = (((fuO (G.2.1 (F a 10)) (mw (G.2.1 (F a 1)) 0) (mw (G.2.1 (F a 2)) 0) 1).length : Nat) : Int))))) ∧ (RM (u.2.1 (F a 1)) 0)) (fun u H => TW E K F u H)) 0 0 (xA E) := by
  refine x_enter (by decide) (Nat.le_of_ble_eq_true rfl) ?_
  intro p e s m args below meth c Q S hr hlk hnm hQ hP ls hl
  obtain ⟨hz, hK, hT⟩ := hP
  obtain ⟨hx, hb, -, -, -⟩ := id S
  obtain ⟨H, hT, hS, hgo⟩ : ∃ H : Heap, TW E K F G H ∧ va_S (xA E) s.heap H [] ∧ H = s.heap := ⟨_, hT, va_S.rf, rfl⟩
  rw [← hgo]
  have hl : lv_has ls 1 [(0, .ref a)] := hl
  obtain ⟨hk9999, hj9999⟩ := fkX11_15 hT ha
  obtain ⟨hk9999a, hj9999a⟩ := fkX11_17 hT ha
  obtain ⟨hk9999b, hj9999b⟩ := fkX11_18 hT ha
  obtain ⟨hk9999c, hj9999c⟩ := fkX11_11 hT ha
  obtain ⟨hk9999d, hj9999d⟩ := fkX11_13 hT ha
  obtain ⟨hk9999e, hj9999e⟩ := fkX11_22 hT ha
  obtain ⟨hk9999f, hj9999f⟩ := fkX11_41 hT ha
  obtain ⟨hk9999g, hj9999g⟩ := fkX11_42 hT ha
  obtain ⟨hk9999h, hj9999h⟩ := fkX11_9 hT ha
  obtain ⟨hk9999i, hj9999i⟩ := fkX11_1 hT ha
  obtain ⟨hk9999j, hj9999j⟩ := fkX11_10 hT ha
  obtain ⟨hk9999k, hj9999k⟩ := fkX11_2 hT ha
  refine lv_aload_n hx hb dX11_commit_0 rfl (lv_at hl 0 rfl) ?_
  refine lv_iconst (v := 0) hx hb dX11_commit_1 (by decide) ?_
  refine pX11_0 (v := 0) S hK hT hS ha kf_X11_134 dX11_commit_2 (fun H locs hT hS => ?_)
  obtain ⟨G2, hG2⟩ : ∃ GG : XG, GG = dput G a 0 0 := ⟨_, rfl⟩
  rw [← hG2] at hT
  refine lv_aload_n hx hb dX11_commit_5 rfl (lv_at hl 0 rfl) ?_
  refine x_cv0 (x_runV (b := a) (As := []) (rest := []) S (c_X11_nothing l E K F G2 a ha) mv_X11_nothing km_X11_231 rfl rfl ⟨Nat.le_of_ble_eq_true rfl, Nat.le_of_ble_eq_true rfl⟩ (rc_13 hK hT ha) hK (fun _ => XP.blind) (fun U hU hW => XP.at hK hz hS hT hU hW) rfl hl.1 (Nat.le_of_ble_eq_true rfl) dX11_commit_6 ⟨Nat.le_of_ble_eq_true rfl, Nat.le_of_ble_eq_true rfl⟩) hS ?_
  rintro G6 H locs ⟨hF6, t6⟩ hT hS
  have t6 : ((G6.1 a 20).toInt) = -2147483648 ∧ ((G6.1 a 21).toInt) = -2147483648 ∧ ((G6.1 a 23).toInt) = 0 := t6
  refine lv_aload_n hx hb dX11_commit_9 rfl (lv_at hl 0 rfl) ?_
  refine gX11_6 S hK hT ha kf_X11_206 dX11_commit_10 (v := (G.1 a 6)) ((hF6.1 _ _ (xnj (by decide) (xnj (by decide) (xnj (by decide) xn0)))).trans (ld_j hG2 (by decide))) (fun hz10 => ?_)
  refine xi_zne (tgt := 19) hx hb (rfl : Int32.toInt (G.1 a 6) = ((G.1 a 6).toInt)) dX11_commit_13 (by decide) (fun c13 => ?_) (fun c13 => ?_)
  · refine lv_aload_n hx hb dX11_commit_19 rfl (lv_at hl 0 rfl) ?_
    refine x_cv0 (x_runV (b := a) (As := []) (rest := []) S (c_X11_findQueue l E K F G6 a ha (v_X11_commit_20_1 (F := F) a G G6 hR ((hF6.2.1 _ xn0).trans (ld_c hG2))) (v_X11_commit_20_2 (F := F) a G G6 hM hB ((hF6.2.1 _ xn0).trans (ld_c hG2))) (v_X11_commit_20_3 (F := F) a G G6 hM hB ((hF6.2.1 _ xn0).trans (ld_c hG2)))) mv_X11_findQueue km_X11_218 rfl rfl ⟨Nat.le_of_ble_eq_true rfl, Nat.le_of_ble_eq_true rfl⟩ (rc_13 hK hT ha) hK (fun _ => XP.blind) (fun U hU hW => XP.at hK hz hS hT hU hW) rfl hl.1 (Nat.le_of_ble_eq_true rfl) dX11_commit_20 ⟨Nat.le_of_ble_eq_true rfl, Nat.le_of_ble_eq_true rfl⟩) hS ?_
    rintro G20 H locs ⟨hF20, t20, oq20, oq20a, oq20b⟩ hT hS
    have t20 : 0 ≤ ((G20.1 a 19).toInt) ∧ ((G20.1 a 19).toInt) ≤ 2388 := t20
    have oq20 : pL G20 F a = if ((G.1 a 6).toInt) = 0 then [] else fuO (G.2.1 (F a 10)) (mw (G.2.1 (F a 1)) 0) (mw (G.2.1 (F a 2)) 0) 1 := by simp only [(show G6.1 a 6 = G.1 a 6 from ((hF6.1 _ _ (xnj (by decide) (xnj (by decide) (xnj (by decide) xn0)))).trans (ld_j hG2 (by decide)))), (show G6.2.1 (F a 10) = G.2.1 (F a 10) from ((hF6.2.1 _ xn0).trans (ld_c hG2))), (show G6.2.1 (F a 1) = G.2.1 (F a 1) from ((hF6.2.1 _ xn0).trans (ld_c hG2))), (show G6.2.1 (F a 2) = G.2.1 (F a 2) from ((hF6.2.1 _ xn0).trans (ld_c hG2)))] at oq20; exact oq20
    have oq20a : ((G.1 a 6).toInt) ≠ 0 → LSt (G.2.1 (F a 10)) (G20.2.1 (F a 11)) (mw (G.2.1 (F a 1)) 0) 12 ∧ LSt (G.2.1 (F a 10)) (G20.2.1 (F a 13)) (mw (G.2.1 (F a 2)) 0) 12 := by simp only [(show G6.1 a 6 = G.1 a 6 from ((hF6.1 _ _ (xnj (by decide) (xnj (by decide) (xnj (by decide) xn0)))).trans (ld_j hG2 (by decide)))), (show G6.2.1 (F a 10) = G.2.1 (F a 10) from ((hF6.2.1 _ xn0).trans (ld_c hG2))), (show G6.2.1 (F a 1) = G.2.1 (F a 1) from ((hF6.2.1 _ xn0).trans (ld_c hG2))), (show G6.2.1 (F a 2) = G.2.1 (F a 2) from ((hF6.2.1 _ xn0).trans (ld_c hG2)))] at oq20a; exact oq20a
    have hv20 : PV (G.2.1 (F a 10)) (pL G20 F a) := (v_X11_commit_23_4 (K := K) (F := F) a G G6 G20 ha oq20 oq20a oq20b am t6 (xzi hz10) c13 t20)
    refine lv_aload_n hx hb dX11_commit_23 rfl (lv_at hl 0 rfl) ?_
    refine lv_aload_n hx hb dX11_commit_24 rfl (lv_at hl 0 rfl) ?_
    refine x_clp (x_runV (b := a) (As := []) (rest := [.ref a]) S (c_X11_firstFailing l E K F G20 H a ha (z_X11_commit_1 ((G20.1 a 19).toInt) t20) (v_X11_commit_25_5 (F := F) a G G20 hR ((hF20.2.1 _ (xn1 (xne_k hk9999j hk9999 (by decide)) (xn1 (xne_k hk9999j hk9999a (by decide)) (xn1 (xne_k hk9999j hk9999b (by decide)) (xn1 (xne_k hk9999j hk9999c (by decide)) (xn1 (xne_k hk9999j hk9999d (by decide)) xn0)))))).trans ((hF6.2.1 _ xn0).trans (ld_c hG2)))) (v_X11_commit_25_6 (F := F) a G G20 hM hB ((hF20.2.1 _ (xn1 (xne_k hk9999i hk9999 (by decide)) (xn1 (xne_k hk9999i hk9999a (by decide)) (xn1 (xne_k hk9999i hk9999b (by decide)) (xn1 (xne_k hk9999i hk9999c (by decide)) (xn1 (xne_k hk9999i hk9999d (by decide)) xn0)))))).trans ((hF6.2.1 _ xn0).trans (ld_c hG2)))) (v_X11_commit_25_7 (F := F) a G G20 hv20 ((hF20.2.1 _ (xn1 (xne_k hk9999j hk9999 (by decide)) (xn1 (xne_k hk9999j hk9999a (by decide)) (xn1 (xne_k hk9999j hk9999b (by decide)) (xn1 (xne_k hk9999j hk9999c (by decide)) (xn1 (xne_k hk9999j hk9999d (by decide)) xn0)))))).trans ((hF6.2.1 _ xn0).trans (ld_c hG2))))) mv_X11_firstFailing km_X11_313 rfl rfl ⟨Nat.le_of_ble_eq_true rfl, Nat.le_of_ble_eq_true rfl⟩ (rc_13 hK hT ha) hK (fun _ => XPh.blind) (fun U hU hW => XPh.at hK hz hS hT hU hW) rfl hl.1 (Nat.le_of_ble_eq_true rfl) dX11_commit_25 ⟨Nat.le_of_ble_eq_true rfl, Nat.le_of_ble_eq_true rfl⟩) hS ?_
    rintro _ _ locs ⟨x25, rfl, t25, oq25⟩ hS
    have t25 : -1 ≤ x25.toInt ∧ x25.toInt < ((G20.1 a 19).toInt) := t25
    have oq25 : x25.toInt = ffP (G.2.1 (F a 10)) (mw (G.2.1 (F a 1)) 0) (pL G20 F a) := by simp only [(show G20.2.1 (F a 10) = G.2.1 (F a 10) from ((hF20.2.1 _ (xn1 (xne_k hk9999j hk9999 (by decide)) (xn1 (xne_k hk9999j hk9999a (by decide)) (xn1 (xne_k hk9999j hk9999b (by decide)) (xn1 (xne_k hk9999j hk9999c (by decide)) (xn1 (xne_k hk9999j hk9999d (by decide)) xn0)))))).trans ((hF6.2.1 _ xn0).trans (ld_c hG2)))), (show G20.2.1 (F a 1) = G.2.1 (F a 1) from ((hF20.2.1 _ (xn1 (xne_k hk9999i hk9999 (by decide)) (xn1 (xne_k hk9999i hk9999a (by decide)) (xn1 (xne_k hk9999i hk9999b (by decide)) (xn1 (xne_k hk9999i hk9999c (by decide)) (xn1 (xne_k hk9999i hk9999d (by decide)) xn0)))))).trans ((hF6.2.1 _ xn0).trans (ld_c hG2))))] at oq25; exact oq25
    refine pX11_46 (v := x25) S hK hT hS ha kf_X11_322 dX11_commit_28 (fun H locs hT hS => ?_)
    obtain ⟨G28, hG28⟩ : ∃ GG : XG, GG = dput G20 a 46 x25 := ⟨_, rfl⟩
    rw [← hG28] at hT
    refine lv_aload_n hx hb dX11_commit_31 rfl (lv_at hl 0 rfl) ?_
    refine x_cv0 (x_runV (b := a) (As := []) (rest := []) S (c_X11_takeAsked l E K F G28 a ha (by rw [(show (G28.1 a 19).toInt = ((G20.1 a 19).toInt) from (congrArg Int32.toInt (ld_j hG28 (by decide))).trans (rfl : Int32.toInt (G20.1 a 19) = ((G20.1 a 19).toInt))), (show (G28.1 a 46).toInt = x25.toInt from (congrArg Int32.toInt (ld_at hG28)).trans (rfl : Int32.toInt x25 = x25.toInt))] <;> exact (z_X11_commit_2 x25.toInt ((G20.1 a 19).toInt) t20 t25))) mv_X11_takeAsked km_X11_337 rfl rfl ⟨Nat.le_of_ble_eq_true rfl, Nat.le_of_ble_eq_true rfl⟩ (rc_13 hK hT ha) hK (fun _ => XP.blind) (fun U hU hW => XP.at hK hz hS hT hU hW) rfl hl.1 (Nat.le_of_ble_eq_true rfl) dX11_commit_32 ⟨Nat.le_of_ble_eq_true rfl, Nat.le_of_ble_eq_true rfl⟩) hS ?_
    rintro G32 H locs ⟨hF32, t32, oq32⟩ hT hS
    have t32 : 0 ≤ ((G32.1 a 43).toInt) ∧ ((G32.1 a 43).toInt) ≤ 2388 ∧ ((G32.1 a 44).toInt) = x25.toInt ∧ ((x25.toInt = -1 ∧ ((G32.1 a 43).toInt) = ((G20.1 a 19).toInt)) ∨ (x25.toInt ≠ -1 ∧ ((G32.1 a 43).toInt) = x25.toInt + 1)) := by rw [(show (G28.1 a 46).toInt = x25.toInt from (congrArg Int32.toInt (ld_at hG28)).trans (rfl : Int32.toInt x25 = x25.toInt))] at t32; rw [(show (G28.1 a 19).toInt = ((G20.1 a 19).toInt) from (congrArg Int32.toInt (ld_j hG28 (by decide))).trans (rfl : Int32.toInt (G20.1 a 19) = ((G20.1 a 19).toInt)))] at t32; exact t32
    have oq32 : ((G28.1 a 46).toInt) < ((G20.1 a 19).toInt) → aL G32 F a = (pL G28 F a).take ((G32.1 a 43).toInt).toNat := by simp only [(show G28.1 a 19 = G20.1 a 19 from (ld_j hG28 (by decide)))] at oq32; exact oq32
    refine lv_aload_n hx hb dX11_commit_35 rfl (lv_at hl 0 rfl) ?_
    refine lv_iconst (v := 0) hx hb dX11_commit_36 (by decide) ?_
    refine pX11_6 (v := 0) S hK hT hS ha kf_X11_206 (Or.inl rfl) dX11_commit_37 (fun H locs hT hS => ?_)
    obtain ⟨G37, hG37⟩ : ∃ GG : XG, GG = dput G32 a 6 0 := ⟨_, rfl⟩
    rw [← hG37] at hT
    refine lv_aload_n hx hb dX11_commit_40 rfl (lv_at hl 0 rfl) ?_
    refine gX11_46 S hK hT ha kf_X11_322 dX11_commit_41 (v := x25) ((ld_j hG37 (by decide)).trans ((hF32.1 _ _ (xnj (by decide) (xnj (by decide) xn0))).trans (ld_at hG28))) (?_)
    refine lv_iconst (v := (-1)) hx hb dX11_commit_44 (by decide) ?_
    refine xi_ceq (tgt := 96) hx hb (rfl : Int32.toInt x25 = x25.toInt) ((by decide) : Int32.toInt (-1) = (-1 : Int)) dX11_commit_45 (by decide) (fun c45 => ?_) (fun c45 => ?_)
    · refine lv_aload_n hx hb dX11_commit_96 rfl (lv_at hl 0 rfl) ?_
      refine gX11_9 S hK hT ha kf_X11_30 dX11_commit_97 (fun _ _ => ?_)
      refine lv_iconst (v := 1) hx hb dX11_commit_100 (by decide) ?_
      refine lv_dup2_11 hx hb dX11_commit_101 rfl rfl ?_
      refine al_0 S hK hT hk9999h ar_36 (by decide) (by decide) dX11_commit_102 (fun x102 hv102 o102 => ?_)
      have hv102 : x102.toInt = (aI (G32.2.1 (F a 9)) 1) := hv102.trans (by rw [((by decide) : Int32.toInt 1 = (1 : Int)), ((ld_c hG37) : G37.2.1 (F a 9) = G32.2.1 (F a 9))])
      refine lv_iconst (v := 1) hx hb dX11_commit_103 (by decide) ?_
      refine xi_iadd hx hb (hv102 : Int32.toInt x102 = (aI (G32.2.1 (F a 9)) 1)) ((by decide) : Int32.toInt 1 = (1 : Int)) dX11_commit_104 (fun x104 t104 => ?_)
      refine as_0 (x := x104) S hK hT hS hk9999h ar_36 aw_36 (by decide) (by decide) dX11_commit_105 (fun H locs hT hS => ?_)
      obtain ⟨G105, hG105⟩ : ∃ GG : XG, GG = cput G37 (F a 9) (1 : Int32).toNatClampNeg x104 := ⟨_, rfl⟩
      rw [← hG105] at hT
      refine lv_aload_n hx hb dX11_commit_106 rfl (lv_at hl 0 rfl) ?_
      refine gX11_43 S hK hT ha kf_X11_340 dX11_commit_107 (v := (G32.1 a 43)) ((lc_d hG105).trans (ld_j hG37 (by decide))) (?_)
      exact x_ri hx hb hr hlk hQ (Nat.le_of_ble_eq_true rfl) (Nat.le_of_ble_eq_true rfl) hS dX11_commit_110 G105 ⟨_, rfl, (by rw [hG105]; exact XFr.cput (by rw [hG37]; exact XFr.dput (XFr.call (by rw [hG28]; exact XFr.dput (XFr.call (XFr.call (by rw [hG2]; exact XFr.dput XFr.rf (List.mem_of_getElem? (i := 7) rfl)) hF6 (xm1 2 rfl (xm1 3 rfl (xm1 4 rfl xm0))) xm0 xm0) hF20 (xm1 0 rfl (xm1 1 rfl xm0)) (xm1 0 rfl (xm1 1 rfl (xm1 2 rfl (xm1 3 rfl (xm1 4 rfl xm0))))) xm0) (List.mem_of_getElem? (i := 9) rfl)) hF32 (xm1 5 rfl (xm1 6 rfl xm0)) (xm1 6 rfl (xm1 7 rfl (xm1 8 rfl xm0))) xm0) (List.mem_of_getElem? (i := 8) rfl)) (List.mem_of_getElem? (i := 8) rfl)), (by rw [(show (G105.1 a 6).toInt = (0 : Int) from (congrArg Int32.toInt ((lc_d hG105).trans (ld_at hG37))).trans ((by decide) : Int32.toInt 0 = (0 : Int))), (show (G105.1 a 23).toInt = ((G6.1 a 23).toInt) from (congrArg Int32.toInt ((lc_d hG105).trans ((ld_j hG37 (by decide)).trans ((hF32.1 _ _ (xnj (by decide) (xnj (by decide) xn0))).trans ((ld_j hG28 (by decide)).trans (hF20.1 _ _ (xnj (by decide) (xnj (by decide) xn0)))))))).trans (rfl : Int32.toInt (G6.1 a 23) = ((G6.1 a 23).toInt))), (show (G105.1 a 43).toInt = ((G32.1 a 43).toInt) from (congrArg Int32.toInt ((lc_d hG105).trans (ld_j hG37 (by decide)))).trans (rfl : Int32.toInt (G32.1 a 43) = ((G32.1 a 43).toInt)))] <;> exact (z_X11_commit_3 ((G.1 a 6).toInt) ((G32.1 a 43).toInt) ((G6.1 a 20).toInt) ((G6.1 a 21).toInt) ((G6.1 a 23).toInt) t6 c13 (t32).1 (t32).2.1)), (v_X11_commit_110_8 (K := K) (F := F) a G G6 G20 G28 x25 G32 G105 ha oq20 oq20a oq20b oq25 oq32 am t6 (xzi hz10) c13 t20 t25 t32 c45 ((lc_c hG105 (xne_k hk9999i hk9999h (by decide))).trans ((ld_c hG37).trans ((hF32.2.1 _ (xn1 (xne_k hk9999i hk9999f (by decide)) (xn1 (xne_k hk9999i hk9999g (by decide)) (xn1 (xne_k hk9999i hk9999h (by decide)) xn0)))).trans ((ld_c hG28).trans ((hF20.2.1 _ (xn1 (xne_k hk9999i hk9999 (by decide)) (xn1 (xne_k hk9999i hk9999a (by decide)) (xn1 (xne_k hk9999i hk9999b (by decide)) (xn1 (xne_k hk9999i hk9999c (by decide)) (xn1 (xne_k hk9999i hk9999d (by decide)) xn0)))))).trans ((hF6.2.1 _ xn0).trans (ld_c hG2)))))))), (v_X11_commit_110_9 (F := F) a G G105 hM ((lc_c hG105 (xne_k hk9999i hk9999h (by decide))).trans ((ld_c hG37).trans ((hF32.2.1 _ (xn1 (xne_k hk9999i hk9999f (by decide)) (xn1 (xne_k hk9999i hk9999g (by decide)) (xn1 (xne_k hk9999i hk9999h (by decide)) xn0)))).trans ((ld_c hG28).trans ((hF20.2.1 _ (xn1 (xne_k hk9999i hk9999 (by decide)) (xn1 (xne_k hk9999i hk9999a (by decide)) (xn1 (xne_k hk9999i hk9999b (by decide)) (xn1 (xne_k hk9999i hk9999c (by decide)) (xn1 (xne_k hk9999i hk9999d (by decide)) xn0)))))).trans ((hF6.2.1 _ xn0).trans (ld_c hG2))))))))⟩ hT
    · have z48 : (0 ≤ (aI (G20.2.1 (F a 17)) (x25.toInt)) ∧ (aI (G20.2.1 (F a 17)) (x25.toInt)) ≤ 11) ∧ (aI (G.2.1 (F a 10)) (10 * aI (G20.2.1 (F a 17)) (x25.toInt) + 0)) ≠ -1 ∧ ((sF (aI (G.2.1 (F a 10)) (10 * aI (G20.2.1 (F a 17)) (x25.toInt) + 0))) ≤ (aI (G20.2.1 (F a 18)) (x25.toInt)) ∧ (aI (G20.2.1 (F a 18)) (x25.toInt)) ≤ (sL (aI (G.2.1 (F a 10)) (10 * aI (G20.2.1 (F a 17)) (x25.toInt) + 0)))) := pv_at hv20 (z_X11_commit_4 x25.toInt ((G20.1 a 19).toInt) t25 c45)
      have z48a : ((sF (aI (G.2.1 (F a 10)) (10 * aI (G20.2.1 (F a 17)) (x25.toInt) + 0))) = 0 ∨ (sF (aI (G.2.1 (F a 10)) (10 * aI (G20.2.1 (F a 17)) (x25.toInt) + 0))) = -99) ∧ ((sL (aI (G.2.1 (F a 10)) (10 * aI (G20.2.1 (F a 17)) (x25.toInt) + 0))) = 29 ∨ (sL (aI (G.2.1 (F a 10)) (10 * aI (G20.2.1 (F a 17)) (x25.toInt) + 0))) = 99) := sFLb _
      refine lv_aload_n hx hb dX11_commit_48 rfl (lv_at hl 0 rfl) ?_
      refine lv_aload_n hx hb dX11_commit_49 rfl (lv_at hl 0 rfl) ?_
      refine gX11_17 S hK hT ha kf_X11_51 dX11_commit_50 (fun _ _ => ?_)
      refine lv_aload_n hx hb dX11_commit_53 rfl (lv_at hl 0 rfl) ?_
      refine gX11_46 S hK hT ha kf_X11_322 dX11_commit_54 (v := x25) ((ld_j hG37 (by decide)).trans ((hF32.1 _ _ (xnj (by decide) (xnj (by decide) xn0))).trans (ld_at hG28))) (?_)
      refine al_0 S hK hT hk9999a ar_43 (by decide) (z_X11_commit_5 x25.toInt ((G20.1 a 19).toInt) t20 t25 c45) dX11_commit_57 (fun x57 hv57 o57 => ?_)
      have hv57 : x57.toInt = (aI (G20.2.1 (F a 17)) (x25.toInt)) := hv57.trans (by rw [(rfl : Int32.toInt x25 = x25.toInt), (((ld_c hG37).trans ((hF32.2.1 _ (xn1 (xne_k hk9999a hk9999f (by decide)) (xn1 (xne_k hk9999a hk9999g (by decide)) (xn1 (xne_k hk9999a hk9999h (by decide)) xn0)))).trans (ld_c hG28))) : G37.2.1 (F a 17) = G20.2.1 (F a 17))])
      refine lv_aload_n hx hb dX11_commit_58 rfl (lv_at hl 0 rfl) ?_
      refine gX11_18 S hK hT ha kf_X11_54 dX11_commit_59 (fun _ _ => ?_)
      refine lv_aload_n hx hb dX11_commit_62 rfl (lv_at hl 0 rfl) ?_
      refine gX11_46 S hK hT ha kf_X11_322 dX11_commit_63 (v := x25) ((ld_j hG37 (by decide)).trans ((hF32.1 _ _ (xnj (by decide) (xnj (by decide) xn0))).trans (ld_at hG28))) (?_)
      refine al_0 S hK hT hk9999b ar_44 (by decide) (z_X11_commit_5 x25.toInt ((G20.1 a 19).toInt) t20 t25 c45) dX11_commit_66 (fun x66 hv66 o66 => ?_)
      have hv66 : x66.toInt = (aI (G20.2.1 (F a 18)) (x25.toInt)) := hv66.trans (by rw [(rfl : Int32.toInt x25 = x25.toInt), (((ld_c hG37).trans ((hF32.2.1 _ (xn1 (xne_k hk9999b hk9999f (by decide)) (xn1 (xne_k hk9999b hk9999g (by decide)) (xn1 (xne_k hk9999b hk9999h (by decide)) xn0)))).trans (ld_c hG28))) : G37.2.1 (F a 18) = G20.2.1 (F a 18))])
      refine x_cv0 (x_runV (b := a) (As := [.int x57, .int x66]) (rest := []) S (c_X11_failed l E K F G37 a x57 x66 ha (by rw [(hv57 : Int32.toInt x57 = (aI (G20.2.1 (F a 17)) (x25.toInt)))] <;> exact ((z48).1)) (by rw [(hv66 : Int32.toInt x66 = (aI (G20.2.1 (F a 18)) (x25.toInt)))] <;> exact (z_X11_commit_8 (aI (G20.2.1 (F a 18)) (x25.toInt)) (sF (aI (G.2.1 (F a 10)) (10 * aI (G20.2.1 (F a 17)) (x25.toInt) + 0))) (sL (aI (G.2.1 (F a 10)) (10 * aI (G20.2.1 (F a 17)) (x25.toInt) + 0))) (z48).2.2 (z48a).1 (z48a).2))) mv_X11_failed km_X11_299 rfl rfl ⟨Nat.le_of_ble_eq_true rfl, Nat.le_of_ble_eq_true rfl⟩ (rc_13 hK hT ha) hK (fun _ => XP.blind) (fun U hU hW => XP.at hK hz hS hT hU hW) rfl hl.1 (Nat.le_of_ble_eq_true rfl) dX11_commit_67 ⟨Nat.le_of_ble_eq_true rfl, Nat.le_of_ble_eq_true rfl⟩) hS ?_
      rintro G67 H locs ⟨hF67, t67⟩ hT hS
      have t67 : ((G67.1 a 20).toInt) = (aI (G20.2.1 (F a 17)) (x25.toInt)) ∧ ((G67.1 a 21).toInt) = (aI (G20.2.1 (F a 18)) (x25.toInt)) ∧ 0 ≤ ((G67.1 a 23).toInt) ∧ ((G67.1 a 23).toInt) ≤ 24 := by rw [(hv57 : Int32.toInt x57 = (aI (G20.2.1 (F a 17)) (x25.toInt)))] at t67; rw [(hv66 : Int32.toInt x66 = (aI (G20.2.1 (F a 18)) (x25.toInt)))] at t67; exact t67
      refine lv_aload_n hx hb dX11_commit_70 rfl (lv_at hl 0 rfl) ?_
      refine gX11_2 S hK hT ha kf_X11_15 dX11_commit_71 (fun _ _ => ?_)
      refine lv_iconst (v := 0) hx hb dX11_commit_74 (by decide) ?_
      refine lv_aload_n hx hb dX11_commit_75 rfl (lv_at hl 0 rfl) ?_
      refine gX11_1 S hK hT ha kf_X11_9 dX11_commit_76 (fun _ _ => ?_)
      refine lv_iconst (v := 0) hx hb dX11_commit_79 (by decide) ?_
      refine x_cv0 (x_runS (As := [.ref (F a 2), .int 0, .ref (F a 1), .int 0]) (rest := []) S (c_X11_copy l E K F G67 (F a 2) 0 (F a 1) 0 (XO.b hk9999k (by decide)) (XO.a hk9999i (by decide)) (v_X11_commit_80_10 (K := K) (F := F) a G2 G G6 G20 G28 x25 G32 G37 G67 x57 x66 ha hk9999 hj9999 hk9999a hj9999a hk9999b hj9999b hk9999c hj9999c hk9999d hj9999d hk9999e hj9999e hk9999f hj9999f hk9999g hj9999g hk9999h hj9999h hk9999i hj9999i hk9999j hj9999j hk9999k hj9999k hG2 hF6 hF20 hG28 hF32 hG37 hF67 hR hM hB oq20 oq20a oq20b hv20 oq25 oq32 hv57 hv66 am t6 (xzi hz10) c13 t20 t25 t32 c45 z48 z48a t67 ((hF6.2.1 _ xn0).trans (ld_c hG2)) ((hF67.2.1 _ (xn1 (xne_k hk9999i hk9999e (by decide)) xn0)).trans ((ld_c hG37).trans ((hF32.2.1 _ (xn1 (xne_k hk9999i hk9999f (by decide)) (xn1 (xne_k hk9999i hk9999g (by decide)) (xn1 (xne_k hk9999i hk9999h (by decide)) xn0)))).trans ((ld_c hG28).trans ((hF20.2.1 _ (xn1 (xne_k hk9999i hk9999 (by decide)) (xn1 (xne_k hk9999i hk9999a (by decide)) (xn1 (xne_k hk9999i hk9999b (by decide)) (xn1 (xne_k hk9999i hk9999c (by decide)) (xn1 (xne_k hk9999i hk9999d (by decide)) xn0)))))).trans ((hF6.2.1 _ xn0).trans (ld_c hG2))))))) ((hF67.2.1 _ (xn1 (xne_k hk9999c hk9999e (by decide)) xn0)).trans ((ld_c hG37).trans ((hF32.2.1 _ (xn1 (xne_k hk9999c hk9999f (by decide)) (xn1 (xne_k hk9999c hk9999g (by decide)) (xn1 (xne_k hk9999c hk9999h (by decide)) xn0)))).trans (ld_c hG28)))) ((hF67.2.1 _ (xn1 (xne_k hk9999d hk9999e (by decide)) xn0)).trans ((ld_c hG37).trans ((hF32.2.1 _ (xn1 (xne_k hk9999d hk9999f (by decide)) (xn1 (xne_k hk9999d hk9999g (by decide)) (xn1 (xne_k hk9999d hk9999h (by decide)) xn0)))).trans (ld_c hG28)))) ((hF67.2.1 _ (xn1 (xne_k hk9999 hk9999e (by decide)) xn0)).trans ((ld_c hG37).trans ((hF32.2.1 _ (xn1 (xne_k hk9999 hk9999f (by decide)) (xn1 (xne_k hk9999 hk9999g (by decide)) (xn1 (xne_k hk9999 hk9999h (by decide)) xn0)))).trans (ld_c hG28)))) ((hF67.2.1 _ (xn1 (xne_k hk9999a hk9999e (by decide)) xn0)).trans ((ld_c hG37).trans ((hF32.2.1 _ (xn1 (xne_k hk9999a hk9999f (by decide)) (xn1 (xne_k hk9999a hk9999g (by decide)) (xn1 (xne_k hk9999a hk9999h (by decide)) xn0)))).trans (ld_c hG28)))) ((hF67.2.1 _ (xn1 (xne_k hk9999b hk9999e (by decide)) xn0)).trans ((ld_c hG37).trans ((hF32.2.1 _ (xn1 (xne_k hk9999b hk9999f (by decide)) (xn1 (xne_k hk9999b hk9999g (by decide)) (xn1 (xne_k hk9999b hk9999h (by decide)) xn0)))).trans (ld_c hG28)))) ((hF67.2.1 _ (xn1 (xne_k hk9999k hk9999e (by decide)) xn0)).trans ((ld_c hG37).trans ((hF32.2.1 _ (xn1 (xne_k hk9999k hk9999f (by decide)) (xn1 (xne_k hk9999k hk9999g (by decide)) (xn1 (xne_k hk9999k hk9999h (by decide)) xn0)))).trans ((ld_c hG28).trans ((hF20.2.1 _ (xn1 (xne_k hk9999k hk9999 (by decide)) (xn1 (xne_k hk9999k hk9999a (by decide)) (xn1 (xne_k hk9999k hk9999b (by decide)) (xn1 (xne_k hk9999k hk9999c (by decide)) (xn1 (xne_k hk9999k hk9999d (by decide)) xn0)))))).trans ((hF6.2.1 _ xn0).trans (ld_c hG2))))))) ((hF67.2.1 _ (xn1 (xne_k hk9999f hk9999e (by decide)) xn0)).trans (ld_c hG37)) ((hF67.2.1 _ (xn1 (xne_k hk9999g hk9999e (by decide)) xn0)).trans (ld_c hG37)) ((hF67.2.1 _ (xn1 (xne_k hk9999h hk9999e (by decide)) xn0)).trans (ld_c hG37)) (ld_at hG28) ((hF67.1 _ _ (xnj (by decide) (xnj (by decide) (xnj (by decide) xn0)))).trans ((ld_j hG37 (by decide)).trans ((hF32.1 _ _ (xnj (by decide) (xnj (by decide) xn0))).trans ((ld_j hG28 (by decide)).trans ((hF20.1 _ _ (xnj (by decide) (xnj (by decide) xn0))).trans ((hF6.1 _ _ (xnj (by decide) (xnj (by decide) (xnj (by decide) xn0)))).trans (ld_at hG2))))))) ((hF67.1 _ _ (xnj (by decide) (xnj (by decide) (xnj (by decide) xn0)))).trans ((ld_j hG37 (by decide)).trans ((hF32.1 _ _ (xnj (by decide) (xnj (by decide) xn0))).trans (ld_j hG28 (by decide))))) ((hF67.1 _ _ (xnj (by decide) (xnj (by decide) (xnj (by decide) xn0)))).trans ((ld_j hG37 (by decide)).trans ((hF32.1 _ _ (xnj (by decide) (xnj (by decide) xn0))).trans (ld_j hG28 (by decide))))) ((hF67.1 _ _ (xnj (by decide) (xnj (by decide) (xnj (by decide) xn0)))).trans (ld_j hG37 (by decide))) ((hF67.1 _ _ (xnj (by decide) (xnj (by decide) (xnj (by decide) xn0)))).trans (ld_j hG37 (by decide))) ((hF67.1 _ _ (xnj (by decide) (xnj (by decide) (xnj (by decide) xn0)))).trans ((ld_j hG37 (by decide)).trans ((hF32.1 _ _ (xnj (by decide) (xnj (by decide) xn0))).trans (ld_at hG28)))) ((hF67.1 _ _ (xnj (by decide) (xnj (by decide) (xnj (by decide) xn0)))).trans (ld_at hG37)))) ms_X11_copy km_X11_309 rfl rfl ⟨Nat.le_of_ble_eq_true rfl, Nat.le_of_ble_eq_true rfl⟩ hK (fun _ => XP.blind) (fun U hU hW => XP.at hK hz hS hT hU hW) rfl hl.1 (Nat.le_of_ble_eq_true rfl) dX11_commit_80 ⟨Nat.le_of_ble_eq_true rfl, Nat.le_of_ble_eq_true rfl⟩) hS ?_
      rintro G80 H locs ⟨hF80, oq80⟩ hT hS
      refine lv_aload_n hx hb dX11_commit_83 rfl (lv_at hl 0 rfl) ?_
      refine gX11_9 S hK hT ha kf_X11_30 dX11_commit_84 (fun _ _ => ?_)
      refine lv_iconst (v := 2) hx hb dX11_commit_87 (by decide) ?_
      refine lv_dup2_11 hx hb dX11_commit_88 rfl rfl ?_
      refine al_0 S hK hT hk9999h ar_36 (by decide) (by decide) dX11_commit_89 (fun x89 hv89 o89 => ?_)
      have hv89 : x89.toInt = (aI (G32.2.1 (F a 9)) 2) := hv89.trans (by rw [((by decide) : Int32.toInt 2 = (2 : Int)), (((hF80.2.1 _ (xn1 (xne_k hk9999h hk9999i (by decide)) xn0)).trans ((hF67.2.1 _ (xn1 (xne_k hk9999h hk9999e (by decide)) xn0)).trans (ld_c hG37))) : G80.2.1 (F a 9) = G32.2.1 (F a 9))])
      refine lv_iconst (v := 1) hx hb dX11_commit_90 (by decide) ?_
      refine xi_iadd hx hb (hv89 : Int32.toInt x89 = (aI (G32.2.1 (F a 9)) 2)) ((by decide) : Int32.toInt 1 = (1 : Int)) dX11_commit_91 (fun x91 t91 => ?_)
      refine as_0 (x := x91) S hK hT hS hk9999h ar_36 aw_36 (by decide) (by decide) dX11_commit_92 (fun H locs hT hS => ?_)
      obtain ⟨G92, hG92⟩ : ∃ GG : XG, GG = cput G80 (F a 9) (2 : Int32).toNatClampNeg x91 := ⟨_, rfl⟩
      rw [← hG92] at hT
      refine lv_bipush (v := (-5)) hx hb dX11_commit_93 (by decide) ?_
      exact x_ri hx hb hr hlk hQ (Nat.le_of_ble_eq_true rfl) (Nat.le_of_ble_eq_true rfl) hS dX11_commit_95 G92 ⟨_, rfl, (by rw [hG92]; exact XFr.cput (XFr.call (XFr.call (by rw [hG37]; exact XFr.dput (XFr.call (by rw [hG28]; exact XFr.dput (XFr.call (XFr.call (by rw [hG2]; exact XFr.dput XFr.rf (List.mem_of_getElem? (i := 7) rfl)) hF6 (xm1 2 rfl (xm1 3 rfl (xm1 4 rfl xm0))) xm0 xm0) hF20 (xm1 0 rfl (xm1 1 rfl xm0)) (xm1 0 rfl (xm1 1 rfl (xm1 2 rfl (xm1 3 rfl (xm1 4 rfl xm0))))) xm0) (List.mem_of_getElem? (i := 9) rfl)) hF32 (xm1 5 rfl (xm1 6 rfl xm0)) (xm1 6 rfl (xm1 7 rfl (xm1 8 rfl xm0))) xm0) (List.mem_of_getElem? (i := 8) rfl)) hF67 (xm1 2 rfl (xm1 3 rfl (xm1 4 rfl xm0))) (xm1 5 rfl xm0) xm0) hF80 xm0 (xm1 9 rfl xm0) xm0) (List.mem_of_getElem? (i := 8) rfl)), (by rw [((by decide) : Int32.toInt (-5) = (-5 : Int)), (show (G92.1 a 6).toInt = (0 : Int) from (congrArg Int32.toInt ((lc_d hG92).trans ((hF80.1 _ _ xn0).trans ((hF67.1 _ _ (xnj (by decide) (xnj (by decide) (xnj (by decide) xn0)))).trans (ld_at hG37))))).trans ((by decide) : Int32.toInt 0 = (0 : Int))), (show (G92.1 a 23).toInt = ((G67.1 a 23).toInt) from (congrArg Int32.toInt ((lc_d hG92).trans (hF80.1 _ _ xn0))).trans (rfl : Int32.toInt (G67.1 a 23) = ((G67.1 a 23).toInt))), (show (G92.1 a 43).toInt = ((G32.1 a 43).toInt) from (congrArg Int32.toInt ((lc_d hG92).trans ((hF80.1 _ _ xn0).trans ((hF67.1 _ _ (xnj (by decide) (xnj (by decide) (xnj (by decide) xn0)))).trans (ld_j hG37 (by decide)))))).trans (rfl : Int32.toInt (G32.1 a 43) = ((G32.1 a 43).toInt)))] <;> exact (z_X11_commit_9 ((G.1 a 6).toInt) ((G32.1 a 43).toInt) ((G67.1 a 20).toInt) ((G67.1 a 21).toInt) ((G67.1 a 23).toInt) (aI (G20.2.1 (F a 17)) (x25.toInt)) (aI (G20.2.1 (F a 18)) (x25.toInt)) c13 (t32).1 (t32).2.1 t67)), (by rw [((by decide) : Int32.toInt (-5) = (-5 : Int))] <;> exact (v_X11_commit_95_11 (K := K) (F := F) a G G6 G20 G28 x25 G32 G67 G80 G92 ha oq20 oq20a oq20b oq25 oq32 oq80 am t6 (xzi hz10) c13 t20 t25 t32 c45 z48 z48a t67 ((hF67.2.1 _ (xn1 (xne_k hk9999k hk9999e (by decide)) xn0)).trans ((ld_c hG37).trans ((hF32.2.1 _ (xn1 (xne_k hk9999k hk9999f (by decide)) (xn1 (xne_k hk9999k hk9999g (by decide)) (xn1 (xne_k hk9999k hk9999h (by decide)) xn0)))).trans ((ld_c hG28).trans ((hF20.2.1 _ (xn1 (xne_k hk9999k hk9999 (by decide)) (xn1 (xne_k hk9999k hk9999a (by decide)) (xn1 (xne_k hk9999k hk9999b (by decide)) (xn1 (xne_k hk9999k hk9999c (by decide)) (xn1 (xne_k hk9999k hk9999d (by decide)) xn0)))))).trans ((hF6.2.1 _ xn0).trans (ld_c hG2))))))) (lc_c hG92 (xne_k hk9999i hk9999h (by decide))))), (v_X11_commit_95_12 (F := F) a G G67 G80 G92 hB oq80 ((hF67.2.1 _ (xn1 (xne_k hk9999k hk9999e (by decide)) xn0)).trans ((ld_c hG37).trans ((hF32.2.1 _ (xn1 (xne_k hk9999k hk9999f (by decide)) (xn1 (xne_k hk9999k hk9999g (by decide)) (xn1 (xne_k hk9999k hk9999h (by decide)) xn0)))).trans ((ld_c hG28).trans ((hF20.2.1 _ (xn1 (xne_k hk9999k hk9999 (by decide)) (xn1 (xne_k hk9999k hk9999a (by decide)) (xn1 (xne_k hk9999k hk9999b (by decide)) (xn1 (xne_k hk9999k hk9999c (by decide)) (xn1 (xne_k hk9999k hk9999d (by decide)) xn0)))))).trans ((hF6.2.1 _ xn0).trans (ld_c hG2))))))) (lc_c hG92 (xne_k hk9999i hk9999h (by decide))))⟩ hT
  · refine lv_bipush (v := (-3)) hx hb dX11_commit_16 (by decide) ?_
    exact x_ri hx hb hr hlk hQ (Nat.le_of_ble_eq_true rfl) (Nat.le_of_ble_eq_true rfl) hS dX11_commit_18 G6 ⟨_, rfl, (XFr.call (by rw [hG2]; exact XFr.dput XFr.rf (List.mem_of_getElem? (i := 7) rfl)) hF6 (xm1 2 rfl (xm1 3 rfl (xm1 4 rfl xm0))) xm0 xm0), (by rw [((by decide) : Int32.toInt (-3) = (-3 : Int)), (show (G6.1 a 6).toInt = ((G.1 a 6).toInt) from (congrArg Int32.toInt ((hF6.1 _ _ (xnj (by decide) (xnj (by decide) (xnj (by decide) xn0)))).trans (ld_j hG2 (by decide)))).trans (rfl : Int32.toInt (G.1 a 6) = ((G.1 a 6).toInt))), (show (G6.1 a 43).toInt = ((G.1 a 43).toInt) from (congrArg Int32.toInt ((hF6.1 _ _ (xnj (by decide) (xnj (by decide) (xnj (by decide) xn0)))).trans (ld_j hG2 (by decide)))).trans (rfl : Int32.toInt (G.1 a 43) = ((G.1 a 43).toInt)))] <;> exact (z_X11_commit_10 ((G.1 a 43).toInt) ((G.1 a 6).toInt) ((G6.1 a 20).toInt) ((G6.1 a 21).toInt) ((G6.1 a 23).toInt) am t6 c13)), (by rw [((by decide) : Int32.toInt (-3) = (-3 : Int))] <;> exact (v_X11_commit_18_13 (K := K) (F := F) a G G6 ha am t6 (xzi hz10) c13 ((hF6.2.1 _ xn0).trans (ld_c hG2)))), (v_X11_commit_18_14 (F := F) a G G6 hM ((hF6.2.1 _ xn0).trans (ld_c hG2)))⟩ hT
theorem v_X11_later_79_1 {F : Nat → Nat → Nat} (a : Nat) (G : XG) (G6 : XG)
    (hR : RV (G.2.1 (F a 10)))
    (c_G6_F_a_10 : G6.2.1 (F a 10) = G.2.1 (F a 10)) :
    RV (G6.2.1 (F a 10)) := by simp only [c_G6_F_a_10]; assumption
theorem v_X11_later_79_2 {F : Nat → Nat → Nat} (a : Nat) (G : XG) (G6 : XG)
    (hM : RM (G.2.1 (F a 1)) (0))
    (hB : RM (G.2.1 (F a 2)) 0)
    (c_G6_F_a_1 : G6.2.1 (F a 1) = G.2.1 (F a 1)) :
    RM (G6.2.1 (F a 1)) (0) := by simp only [c_G6_F_a_1]; assumption
theorem v_X11_later_79_3 {F : Nat → Nat → Nat} (a : Nat) (G : XG) (G6 : XG)
    (hM : RM (G.2.1 (F a 1)) (0))
    (hB : RM (G.2.1 (F a 2)) 0)
    (c_G6_F_a_2 : G6.2.1 (F a 2) = G.2.1 (F a 2)) :
    RM (G6.2.1 (F a 2)) 0 := by simp only [c_G6_F_a_2]; assumption
theorem v_X11_later_82_4 {F : Nat → Nat → Nat} (a : Nat) (G : XG) (G79 : XG)
    (oq79 : pL G79 F a = if ((G.1 a 6).toInt) = 0 then [] else fuO (G.2.1 (F a 10)) (mw (G.2.1 (F a 1)) 0) (mw (G.2.1 (F a 2)) 0) 1) :
    PV (G.2.1 (F a 10)) (pL G79 F a) := by
  rw [oq79]
  split
  · intro x hx; cases hx
  · exact fuO_pv _ _ _ _
theorem v_X11_later_171_5 {K : Nat → Nat} {F : Nat → Nat → Nat} (a : Nat) (G : XG) (G6 : XG) (G79 : XG) (G_86 : XG) (G169 : XG) (x167 : Int32) (p0 : Int32) (x79 : Int32) (l4_86 : Int32) (p1 : Int32) (x11 : Int32) (N86 : Nat)
    (ha : K a = 13)
    (hG169 : G169 = cput G_86 (F a 10) x167.toNatClampNeg 0)
    (oq79 : pL G79 F a = if ((G.1 a 6).toInt) = 0 then [] else fuO (G.2.1 (F a 10)) (mw (G.2.1 (F a 1)) 0) (mw (G.2.1 (F a 2)) 0) 1)
    (oq79a : x79.toInt = cnP (pL G79 F a) p0.toInt)
    (pl : ∀ j : Int, 0 ≤ j → j < l4_86.toInt → aI (G79.2.1 (F a 17)) j = p0.toInt → fzq (G.2.1 (F a 10)) (mw (G.2.1 (F a 1)) 0) (aI (G79.2.1 (F a 17)) j) (aI (G79.2.1 (F a 18)) j) = 0)
    (e167 : x167.toInt = (((10 : Int) * p0.toInt) + (6 : Int)))
    (z0 : p1.toInt = 0 ∨ p1.toInt = 1)
    (t6 : ((G6.1 a 20).toInt) = -2147483648 ∧ ((G6.1 a 21).toInt) = -2147483648 ∧ ((G6.1 a 23).toInt) = 0)
    (t11 : (x11.toInt = 1 ∧ 0 ≤ p0.toInt ∧ p0.toInt ≤ 11 ∧ (aI (G.2.1 (F a 10)) (10 * p0.toInt + 0)) ≠ -1) ∨ (x11.toInt = 0 ∧ (¬ (0 ≤ p0.toInt ∧ p0.toInt ≤ 11) ∨ (aI (G.2.1 (F a 10)) (10 * p0.toInt + 0)) = -1)))
    (c14 : x11.toInt ≠ 0)
    (c28 : p1.toInt = 0)
    (c36 : (aI (G.2.1 (F a 10)) (10 * p0.toInt + 6)) ≠ (0 : Int))
    (t79 : 0 ≤ x79.toInt ∧ x79.toInt ≤ 2388 ∧ 0 ≤ ((G79.1 a 19).toInt) ∧ ((G79.1 a 19).toInt) ≤ 2388)
    (I86_0 : 0 ≤ l4_86.toInt ∧ l4_86.toInt ≤ ((G79.1 a 19).toInt))
    (I86_1 : (0 : Int) ≤ l4_86.toInt)
    (hm86 : 2147483648 - l4_86.toInt < (((N86) + 1 : Nat) : Int))
    (c92 : ((G79.1 a 19).toInt) ≤ l4_86.toInt)
    (c_G_86_F_a_10 : G_86.2.1 (F a 10) = G.2.1 (F a 10)) :
    (¬ (0 ≤ p0.toInt ∧ p0.toInt ≤ 11 ∧ aI (G.2.1 (F a 10)) (10 * p0.toInt + 0) ≠ -1) ∧ x79.toInt = -2 ∧ G169.2.1 (F a 10) = (G.2.1 (F a 10))) ∨ ((0 ≤ p0.toInt ∧ p0.toInt ≤ 11 ∧ aI (G.2.1 (F a 10)) (10 * p0.toInt + 0) ≠ -1) ∧ aI (G.2.1 (F a 10)) (10 * p0.toInt + 6) = p1.toInt ∧ x79.toInt = -4 ∧ G169.2.1 (F a 10) = (G.2.1 (F a 10))) ∨ ((0 ≤ p0.toInt ∧ p0.toInt ≤ 11 ∧ aI (G.2.1 (F a 10)) (10 * p0.toInt + 0) ≠ -1) ∧ aI (G.2.1 (F a 10)) (10 * p0.toInt + 6) ≠ p1.toInt ∧ p1.toInt = 1 ∧ (∀ z : Int, 0 ≤ z → aI (G169.2.1 (F a 10)) z = if z = 10 * p0.toInt + 6 then 1 else aI (G.2.1 (F a 10)) z) ∧ x79.toInt = cnP (if ((G.1 a 6).toInt) = 0 then [] else fuO (G169.2.1 (F a 10)) (mw (G.2.1 (F a 1)) 0) (mw (G.2.1 (F a 2)) 0) 1) p0.toInt) ∨ ((0 ≤ p0.toInt ∧ p0.toInt ≤ 11 ∧ aI (G.2.1 (F a 10)) (10 * p0.toInt + 0) ≠ -1) ∧ aI (G.2.1 (F a 10)) (10 * p0.toInt + 6) ≠ p1.toInt ∧ p1.toInt = 0 ∧ ((QFl (G.2.1 (F a 10)) (mw (G.2.1 (F a 1)) 0) (if ((G.1 a 6).toInt) = 0 then [] else fuO (G.2.1 (F a 10)) (mw (G.2.1 (F a 1)) 0) (mw (G.2.1 (F a 2)) 0) 1) p0.toInt ∧ x79.toInt = -5 ∧ G169.2.1 (F a 10) = (G.2.1 (F a 10))) ∨ (¬ QFl (G.2.1 (F a 10)) (mw (G.2.1 (F a 1)) 0) (if ((G.1 a 6).toInt) = 0 then [] else fuO (G.2.1 (F a 10)) (mw (G.2.1 (F a 1)) 0) (mw (G.2.1 (F a 2)) 0) 1) p0.toInt ∧ (∀ z : Int, 0 ≤ z → aI (G169.2.1 (F a 10)) z = if z = 10 * p0.toInt + 6 then 0 else aI (G.2.1 (F a 10)) z) ∧ x79.toInt = cnP (if ((G.1 a 6).toInt) = 0 then [] else fuO (G.2.1 (F a 10)) (mw (G.2.1 (F a 1)) 0) (mw (G.2.1 (F a 2)) 0) 1) p0.toInt))) := by
  refine Or.inr (Or.inr (Or.inr ⟨by omega, by omega, by omega, Or.inr ⟨?_, aI_pu hG169 c_G_86_F_a_10 (by omega) (by decide) (by omega), (by rw [← oq79]; exact oq79a)⟩⟩))
  rw [← oq79]
  rintro ⟨x, hx, hn, hf⟩
  obtain ⟨j, hj⟩ := List.mem_iff_getElem?.mp hx
  obtain ⟨h1, rfl⟩ := pL_get hj
  have := pl (j : Int) (by omega) (by omega) hn
  rw [this] at hf
  exact absurd hf (by decide)
theorem v_X11_later_171_6 {K : Nat → Nat} {F : Nat → Nat → Nat} (a : Nat) (G : XG) (G6 : XG) (G79 : XG) (G_86 : XG) (G169 : XG) (x167 : Int32) (p0 : Int32) (x79 : Int32) (l4_86 : Int32) (p1 : Int32) (x11 : Int32) (N86 : Nat)
    (ha : K a = 13)
    (hG169 : G169 = cput G_86 (F a 10) x167.toNatClampNeg 0)
    (hR : RV (G.2.1 (F a 10)))
    (oq79a : x79.toInt = cnP (pL G79 F a) p0.toInt)
    (e167 : x167.toInt = (((10 : Int) * p0.toInt) + (6 : Int)))
    (z0 : p1.toInt = 0 ∨ p1.toInt = 1)
    (t6 : ((G6.1 a 20).toInt) = -2147483648 ∧ ((G6.1 a 21).toInt) = -2147483648 ∧ ((G6.1 a 23).toInt) = 0)
    (t11 : (x11.toInt = 1 ∧ 0 ≤ p0.toInt ∧ p0.toInt ≤ 11 ∧ (aI (G.2.1 (F a 10)) (10 * p0.toInt + 0)) ≠ -1) ∨ (x11.toInt = 0 ∧ (¬ (0 ≤ p0.toInt ∧ p0.toInt ≤ 11) ∨ (aI (G.2.1 (F a 10)) (10 * p0.toInt + 0)) = -1)))
    (c14 : x11.toInt ≠ 0)
    (c28 : p1.toInt = 0)
    (c36 : (aI (G.2.1 (F a 10)) (10 * p0.toInt + 6)) ≠ (0 : Int))
    (t79 : 0 ≤ x79.toInt ∧ x79.toInt ≤ 2388 ∧ 0 ≤ ((G79.1 a 19).toInt) ∧ ((G79.1 a 19).toInt) ≤ 2388)
    (I86_0 : 0 ≤ l4_86.toInt ∧ l4_86.toInt ≤ ((G79.1 a 19).toInt))
    (I86_1 : (0 : Int) ≤ l4_86.toInt)
    (hm86 : 2147483648 - l4_86.toInt < (((N86) + 1 : Nat) : Int))
    (c92 : ((G79.1 a 19).toInt) ≤ l4_86.toInt)
    (c_G_86_F_a_10 : G_86.2.1 (F a 10) = G.2.1 (F a 10)) :
    RV (G169.2.1 (F a 10)) := by
  exact hR.late (x := p0.toInt) (y := 0) (aI_pu hG169 c_G_86_F_a_10 (by omega) (by decide) (by omega))
theorem v_X11_later_154_7 {K : Nat → Nat} {F : Nat → Nat → Nat} (a : Nat) (G : XG) (G6 : XG) (G79 : XG) (p0 : Int32) (x79 : Int32) (l4_86 : Int32) (p1 : Int32) (x11 : Int32) (N86 : Nat)
    (ha : K a = 13)
    (oq79a : x79.toInt = cnP (pL G79 F a) p0.toInt)
    (pl : ∀ j : Int, 0 ≤ j → j < l4_86.toInt → aI (G79.2.1 (F a 17)) j = p0.toInt → fzq (G.2.1 (F a 10)) (mw (G.2.1 (F a 1)) 0) (aI (G79.2.1 (F a 17)) j) (aI (G79.2.1 (F a 18)) j) = 0)
    (z0 : p1.toInt = 0 ∨ p1.toInt = 1)
    (t6 : ((G6.1 a 20).toInt) = -2147483648 ∧ ((G6.1 a 21).toInt) = -2147483648 ∧ ((G6.1 a 23).toInt) = 0)
    (t11 : (x11.toInt = 1 ∧ 0 ≤ p0.toInt ∧ p0.toInt ≤ 11 ∧ (aI (G.2.1 (F a 10)) (10 * p0.toInt + 0)) ≠ -1) ∨ (x11.toInt = 0 ∧ (¬ (0 ≤ p0.toInt ∧ p0.toInt ≤ 11) ∨ (aI (G.2.1 (F a 10)) (10 * p0.toInt + 0)) = -1)))
    (c14 : x11.toInt ≠ 0)
    (c28 : p1.toInt = 0)
    (c36 : (aI (G.2.1 (F a 10)) (10 * p0.toInt + 6)) ≠ (0 : Int))
    (t79 : 0 ≤ x79.toInt ∧ x79.toInt ≤ 2388 ∧ 0 ≤ ((G79.1 a 19).toInt) ∧ ((G79.1 a 19).toInt) ≤ 2388)
    (I86_0 : 0 ≤ l4_86.toInt ∧ l4_86.toInt ≤ ((G79.1 a 19).toInt))
    (I86_1 : (0 : Int) ≤ l4_86.toInt)
    (hm86 : 2147483648 - l4_86.toInt < (((N86) + 1 : Nat) : Int))
    (c92 : ¬ (((G79.1 a 19).toInt) ≤ l4_86.toInt))
    (c103 : (aI (G79.2.1 (F a 17)) (l4_86.toInt)) ≠ p0.toInt) :
    ∀ j : Int, 0 ≤ j → j < (l4_86.toInt + 1) → aI (G79.2.1 (F a 17)) j = p0.toInt → fzq (G.2.1 (F a 10)) (mw (G.2.1 (F a 1)) 0) (aI (G79.2.1 (F a 17)) j) (aI (G79.2.1 (F a 18)) j) = 0 := by
  intro j h1 h2 h3
  by_cases e : j = l4_86.toInt
  · subst e
    first
      | exact absurd h3 (by omega)
      | (have t9 : flq _ _ _ _ _ _ _ _ = 0 := t130.symm.trans c133
         rw [h3]
         exact t9)
  · exact pl j h1 (by omega) h3
theorem v_X11_later_130_8 {F : Nat → Nat → Nat} (a : Nat) (G : XG) (G115 : XG)
    (hR : RV (G.2.1 (F a 10)))
    (c_G115_F_a_10 : G115.2.1 (F a 10) = G.2.1 (F a 10)) :
    RV (G115.2.1 (F a 10)) := by simp only [c_G115_F_a_10]; assumption
theorem v_X11_later_130_9 {F : Nat → Nat → Nat} (a : Nat) (G : XG) (G115 : XG)
    (hM : RM (G.2.1 (F a 1)) (0))
    (hB : RM (G.2.1 (F a 2)) 0)
    (c_G115_F_a_1 : G115.2.1 (F a 1) = G.2.1 (F a 1)) :
    RM (G115.2.1 (F a 1)) (0 : Int) := by simp only [c_G115_F_a_1]; assumption
theorem v_X11_later_154_10 {K : Nat → Nat} {F : Nat → Nat → Nat} (a : Nat) (G : XG) (G6 : XG) (G79 : XG) (p0 : Int32) (x79 : Int32) (l4_86 : Int32) (p1 : Int32) (x11 : Int32) (N86 : Nat) (x130 : Int32)
    (ha : K a = 13)
    (oq79a : x79.toInt = cnP (pL G79 F a) p0.toInt)
    (pl : ∀ j : Int, 0 ≤ j → j < l4_86.toInt → aI (G79.2.1 (F a 17)) j = p0.toInt → fzq (G.2.1 (F a 10)) (mw (G.2.1 (F a 1)) 0) (aI (G79.2.1 (F a 17)) j) (aI (G79.2.1 (F a 18)) j) = 0)
    (z0 : p1.toInt = 0 ∨ p1.toInt = 1)
    (t6 : ((G6.1 a 20).toInt) = -2147483648 ∧ ((G6.1 a 21).toInt) = -2147483648 ∧ ((G6.1 a 23).toInt) = 0)
    (t11 : (x11.toInt = 1 ∧ 0 ≤ p0.toInt ∧ p0.toInt ≤ 11 ∧ (aI (G.2.1 (F a 10)) (10 * p0.toInt + 0)) ≠ -1) ∨ (x11.toInt = 0 ∧ (¬ (0 ≤ p0.toInt ∧ p0.toInt ≤ 11) ∨ (aI (G.2.1 (F a 10)) (10 * p0.toInt + 0)) = -1)))
    (c14 : x11.toInt ≠ 0)
    (c28 : p1.toInt = 0)
    (c36 : (aI (G.2.1 (F a 10)) (10 * p0.toInt + 6)) ≠ (0 : Int))
    (t79 : 0 ≤ x79.toInt ∧ x79.toInt ≤ 2388 ∧ 0 ≤ ((G79.1 a 19).toInt) ∧ ((G79.1 a 19).toInt) ≤ 2388)
    (I86_0 : 0 ≤ l4_86.toInt ∧ l4_86.toInt ≤ ((G79.1 a 19).toInt))
    (I86_1 : (0 : Int) ≤ l4_86.toInt)
    (hm86 : 2147483648 - l4_86.toInt < (((N86) + 1 : Nat) : Int))
    (c92 : ¬ (((G79.1 a 19).toInt) ≤ l4_86.toInt))
    (c103 : ¬ ((aI (G79.2.1 (F a 17)) (l4_86.toInt)) ≠ p0.toInt))
    (z116 : (0 ≤ (aI (G79.2.1 (F a 17)) (l4_86.toInt)) ∧ (aI (G79.2.1 (F a 17)) (l4_86.toInt)) ≤ 11) ∧ (aI (G.2.1 (F a 10)) (10 * aI (G79.2.1 (F a 17)) (l4_86.toInt) + 0)) ≠ -1 ∧ ((sF (aI (G.2.1 (F a 10)) (10 * aI (G79.2.1 (F a 17)) (l4_86.toInt) + 0))) ≤ (aI (G79.2.1 (F a 18)) (l4_86.toInt)) ∧ (aI (G79.2.1 (F a 18)) (l4_86.toInt)) ≤ (sL (aI (G.2.1 (F a 10)) (10 * aI (G79.2.1 (F a 17)) (l4_86.toInt) + 0)))))
    (z116a : ((sF (aI (G.2.1 (F a 10)) (10 * aI (G79.2.1 (F a 17)) (l4_86.toInt) + 0))) = 0 ∨ (sF (aI (G.2.1 (F a 10)) (10 * aI (G79.2.1 (F a 17)) (l4_86.toInt) + 0))) = -99) ∧ ((sL (aI (G.2.1 (F a 10)) (10 * aI (G79.2.1 (F a 17)) (l4_86.toInt) + 0))) = 29 ∨ (sL (aI (G.2.1 (F a 10)) (10 * aI (G79.2.1 (F a 17)) (l4_86.toInt) + 0))) = 99))
    (z116b : (aI (G79.2.1 (F a 17)) (l4_86.toInt)) = p0.toInt → (sF (aI (G.2.1 (F a 10)) (10 * aI (G79.2.1 (F a 17)) (l4_86.toInt) + 0))) = (sF (aI (G.2.1 (F a 10)) (10 * p0.toInt + 0))) ∧ (sL (aI (G.2.1 (F a 10)) (10 * aI (G79.2.1 (F a 17)) (l4_86.toInt) + 0))) = (sL (aI (G.2.1 (F a 10)) (10 * p0.toInt + 0))))
    (t130 : x130.toInt = (flq (mw (G.2.1 (F a 1)) 0) (aI (G.2.1 (F a 10)) (10 * p0.toInt + 0)) (aI (G.2.1 (F a 10)) (10 * p0.toInt + 1)) (aI (G.2.1 (F a 10)) (10 * p0.toInt + 2)) (aI (G.2.1 (F a 10)) (10 * p0.toInt + 4)) (aI (G.2.1 (F a 10)) (10 * p0.toInt + 5)) (aI (G79.2.1 (F a 18)) (l4_86.toInt)) (stt (mw (G.2.1 (F a 1)) 0) (aI (G.2.1 (F a 10)) (10 * p0.toInt + 0)) (aI (G.2.1 (F a 10)) (10 * p0.toInt + 1)) (aI (G.2.1 (F a 10)) (10 * p0.toInt + 2)) (aI (G.2.1 (F a 10)) (10 * p0.toInt + 3)) (aI (G79.2.1 (F a 18)) (l4_86.toInt)))))
    (f57 : x130.toInt = 0 ∨ x130.toInt = 1)
    (c133 : x130.toInt = 0) :
    ∀ j : Int, 0 ≤ j → j < (l4_86.toInt + 1) → aI (G79.2.1 (F a 17)) j = p0.toInt → fzq (G.2.1 (F a 10)) (mw (G.2.1 (F a 1)) 0) (aI (G79.2.1 (F a 17)) j) (aI (G79.2.1 (F a 18)) j) = 0 := by
  intro j h1 h2 h3
  by_cases e : j = l4_86.toInt
  · subst e
    first
      | exact absurd h3 (by omega)
      | (have t9 : flq _ _ _ _ _ _ _ _ = 0 := t130.symm.trans c133
         rw [h3]
         exact t9)
  · exact pl j h1 (by omega) h3
theorem v_X11_later_150_11 {K : Nat → Nat} {F : Nat → Nat → Nat} (a : Nat) (G : XG) (G6 : XG) (G79 : XG) (G145 : XG) (p0 : Int32) (x79 : Int32) (l4_86 : Int32) (p1 : Int32) (x11 : Int32) (N86 : Nat) (x130 : Int32)
    (ha : K a = 13)
    (oq79 : pL G79 F a = if ((G.1 a 6).toInt) = 0 then [] else fuO (G.2.1 (F a 10)) (mw (G.2.1 (F a 1)) 0) (mw (G.2.1 (F a 2)) 0) 1)
    (oq79a : x79.toInt = cnP (pL G79 F a) p0.toInt)
    (z0 : p1.toInt = 0 ∨ p1.toInt = 1)
    (t6 : ((G6.1 a 20).toInt) = -2147483648 ∧ ((G6.1 a 21).toInt) = -2147483648 ∧ ((G6.1 a 23).toInt) = 0)
    (t11 : (x11.toInt = 1 ∧ 0 ≤ p0.toInt ∧ p0.toInt ≤ 11 ∧ (aI (G.2.1 (F a 10)) (10 * p0.toInt + 0)) ≠ -1) ∨ (x11.toInt = 0 ∧ (¬ (0 ≤ p0.toInt ∧ p0.toInt ≤ 11) ∨ (aI (G.2.1 (F a 10)) (10 * p0.toInt + 0)) = -1)))
    (c14 : x11.toInt ≠ 0)
    (c28 : p1.toInt = 0)
    (c36 : (aI (G.2.1 (F a 10)) (10 * p0.toInt + 6)) ≠ (0 : Int))
    (t79 : 0 ≤ x79.toInt ∧ x79.toInt ≤ 2388 ∧ 0 ≤ ((G79.1 a 19).toInt) ∧ ((G79.1 a 19).toInt) ≤ 2388)
    (I86_0 : 0 ≤ l4_86.toInt ∧ l4_86.toInt ≤ ((G79.1 a 19).toInt))
    (I86_1 : (0 : Int) ≤ l4_86.toInt)
    (hm86 : 2147483648 - l4_86.toInt < (((N86) + 1 : Nat) : Int))
    (c92 : ¬ (((G79.1 a 19).toInt) ≤ l4_86.toInt))
    (c103 : ¬ ((aI (G79.2.1 (F a 17)) (l4_86.toInt)) ≠ p0.toInt))
    (z116 : (0 ≤ (aI (G79.2.1 (F a 17)) (l4_86.toInt)) ∧ (aI (G79.2.1 (F a 17)) (l4_86.toInt)) ≤ 11) ∧ (aI (G.2.1 (F a 10)) (10 * aI (G79.2.1 (F a 17)) (l4_86.toInt) + 0)) ≠ -1 ∧ ((sF (aI (G.2.1 (F a 10)) (10 * aI (G79.2.1 (F a 17)) (l4_86.toInt) + 0))) ≤ (aI (G79.2.1 (F a 18)) (l4_86.toInt)) ∧ (aI (G79.2.1 (F a 18)) (l4_86.toInt)) ≤ (sL (aI (G.2.1 (F a 10)) (10 * aI (G79.2.1 (F a 17)) (l4_86.toInt) + 0)))))
    (z116a : ((sF (aI (G.2.1 (F a 10)) (10 * aI (G79.2.1 (F a 17)) (l4_86.toInt) + 0))) = 0 ∨ (sF (aI (G.2.1 (F a 10)) (10 * aI (G79.2.1 (F a 17)) (l4_86.toInt) + 0))) = -99) ∧ ((sL (aI (G.2.1 (F a 10)) (10 * aI (G79.2.1 (F a 17)) (l4_86.toInt) + 0))) = 29 ∨ (sL (aI (G.2.1 (F a 10)) (10 * aI (G79.2.1 (F a 17)) (l4_86.toInt) + 0))) = 99))
    (z116b : (aI (G79.2.1 (F a 17)) (l4_86.toInt)) = p0.toInt → (sF (aI (G.2.1 (F a 10)) (10 * aI (G79.2.1 (F a 17)) (l4_86.toInt) + 0))) = (sF (aI (G.2.1 (F a 10)) (10 * p0.toInt + 0))) ∧ (sL (aI (G.2.1 (F a 10)) (10 * aI (G79.2.1 (F a 17)) (l4_86.toInt) + 0))) = (sL (aI (G.2.1 (F a 10)) (10 * p0.toInt + 0))))
    (t130 : x130.toInt = (flq (mw (G.2.1 (F a 1)) 0) (aI (G.2.1 (F a 10)) (10 * p0.toInt + 0)) (aI (G.2.1 (F a 10)) (10 * p0.toInt + 1)) (aI (G.2.1 (F a 10)) (10 * p0.toInt + 2)) (aI (G.2.1 (F a 10)) (10 * p0.toInt + 4)) (aI (G.2.1 (F a 10)) (10 * p0.toInt + 5)) (aI (G79.2.1 (F a 18)) (l4_86.toInt)) (stt (mw (G.2.1 (F a 1)) 0) (aI (G.2.1 (F a 10)) (10 * p0.toInt + 0)) (aI (G.2.1 (F a 10)) (10 * p0.toInt + 1)) (aI (G.2.1 (F a 10)) (10 * p0.toInt + 2)) (aI (G.2.1 (F a 10)) (10 * p0.toInt + 3)) (aI (G79.2.1 (F a 18)) (l4_86.toInt)))))
    (f58 : x130.toInt = 0 ∨ x130.toInt = 1)
    (c133 : ¬ (x130.toInt = 0))
    (t145 : ((G145.1 a 20).toInt) = p0.toInt ∧ ((G145.1 a 21).toInt) = (aI (G79.2.1 (F a 18)) (l4_86.toInt)) ∧ 0 ≤ ((G145.1 a 23).toInt) ∧ ((G145.1 a 23).toInt) ≤ 24)
    (c_G145_F_a_10 : G145.2.1 (F a 10) = G.2.1 (F a 10)) :
    (¬ (0 ≤ p0.toInt ∧ p0.toInt ≤ 11 ∧ aI (G.2.1 (F a 10)) (10 * p0.toInt + 0) ≠ -1) ∧ (-5 : Int) = -2 ∧ G145.2.1 (F a 10) = (G.2.1 (F a 10))) ∨ ((0 ≤ p0.toInt ∧ p0.toInt ≤ 11 ∧ aI (G.2.1 (F a 10)) (10 * p0.toInt + 0) ≠ -1) ∧ aI (G.2.1 (F a 10)) (10 * p0.toInt + 6) = p1.toInt ∧ (-5 : Int) = -4 ∧ G145.2.1 (F a 10) = (G.2.1 (F a 10))) ∨ ((0 ≤ p0.toInt ∧ p0.toInt ≤ 11 ∧ aI (G.2.1 (F a 10)) (10 * p0.toInt + 0) ≠ -1) ∧ aI (G.2.1 (F a 10)) (10 * p0.toInt + 6) ≠ p1.toInt ∧ p1.toInt = 1 ∧ (∀ z : Int, 0 ≤ z → aI (G145.2.1 (F a 10)) z = if z = 10 * p0.toInt + 6 then 1 else aI (G.2.1 (F a 10)) z) ∧ (-5 : Int) = cnP (if ((G.1 a 6).toInt) = 0 then [] else fuO (G145.2.1 (F a 10)) (mw (G.2.1 (F a 1)) 0) (mw (G.2.1 (F a 2)) 0) 1) p0.toInt) ∨ ((0 ≤ p0.toInt ∧ p0.toInt ≤ 11 ∧ aI (G.2.1 (F a 10)) (10 * p0.toInt + 0) ≠ -1) ∧ aI (G.2.1 (F a 10)) (10 * p0.toInt + 6) ≠ p1.toInt ∧ p1.toInt = 0 ∧ ((QFl (G.2.1 (F a 10)) (mw (G.2.1 (F a 1)) 0) (if ((G.1 a 6).toInt) = 0 then [] else fuO (G.2.1 (F a 10)) (mw (G.2.1 (F a 1)) 0) (mw (G.2.1 (F a 2)) 0) 1) p0.toInt ∧ (-5 : Int) = -5 ∧ G145.2.1 (F a 10) = (G.2.1 (F a 10))) ∨ (¬ QFl (G.2.1 (F a 10)) (mw (G.2.1 (F a 1)) 0) (if ((G.1 a 6).toInt) = 0 then [] else fuO (G.2.1 (F a 10)) (mw (G.2.1 (F a 1)) 0) (mw (G.2.1 (F a 2)) 0) 1) p0.toInt ∧ (∀ z : Int, 0 ≤ z → aI (G145.2.1 (F a 10)) z = if z = 10 * p0.toInt + 6 then 0 else aI (G.2.1 (F a 10)) z) ∧ (-5 : Int) = cnP (if ((G.1 a 6).toInt) = 0 then [] else fuO (G.2.1 (F a 10)) (mw (G.2.1 (F a 1)) 0) (mw (G.2.1 (F a 2)) 0) 1) p0.toInt))) := by
  refine Or.inr (Or.inr (Or.inr ⟨by omega, by omega, by omega, Or.inl ⟨?_, rfl, by rw [c_G145_F_a_10]⟩⟩))
  rw [← oq79]
  refine ⟨_, List.mem_of_getElem? (pL_at (z := l4_86.toInt) (by omega)), by show aI (G79.2.1 (F a 17)) l4_86.toInt = p0.toInt; omega, ?_⟩
  show fzq _ _ (aI (G79.2.1 (F a 17)) l4_86.toInt) (aI (G79.2.1 (F a 18)) l4_86.toInt) = 1
  rw [show aI (G79.2.1 (F a 17)) l4_86.toInt = p0.toInt from by omega]
  have h01 := flq01 (mw (G.2.1 (F a 1)) 0) (aI (G.2.1 (F a 10)) (10 * p0.toInt + 0)) (aI (G.2.1 (F a 10)) (10 * p0.toInt + 1)) (aI (G.2.1 (F a 10)) (10 * p0.toInt + 2)) (aI (G.2.1 (F a 10)) (10 * p0.toInt + 4)) (aI (G.2.1 (F a 10)) (10 * p0.toInt + 5)) (aI (G79.2.1 (F a 18)) l4_86.toInt) (stt (mw (G.2.1 (F a 1)) 0) (aI (G.2.1 (F a 10)) (10 * p0.toInt + 0)) (aI (G.2.1 (F a 10)) (10 * p0.toInt + 1)) (aI (G.2.1 (F a 10)) (10 * p0.toInt + 2)) (aI (G.2.1 (F a 10)) (10 * p0.toInt + 3)) (aI (G79.2.1 (F a 18)) l4_86.toInt))
  show flq _ _ _ _ _ _ _ _ = 1
  omega
theorem v_X11_later_150_12 {F : Nat → Nat → Nat} (a : Nat) (G : XG) (G145 : XG)
    (hR : RV (G.2.1 (F a 10)))
    (c_G145_F_a_10 : G145.2.1 (F a 10) = G.2.1 (F a 10)) :
    RV (G145.2.1 (F a 10)) := by
  rw [c_G145_F_a_10]; exact hR
theorem v_X11_later_84_13 {K : Nat → Nat} {F : Nat → Nat → Nat} (a : Nat) (G : XG) (G6 : XG) (G79 : XG) (p0 : Int32) (x79 : Int32) (p1 : Int32) (x11 : Int32)
    (ha : K a = 13)
    (oq79a : x79.toInt = cnP (pL G79 F a) p0.toInt)
    (z0 : p1.toInt = 0 ∨ p1.toInt = 1)
    (t6 : ((G6.1 a 20).toInt) = -2147483648 ∧ ((G6.1 a 21).toInt) = -2147483648 ∧ ((G6.1 a 23).toInt) = 0)
    (t11 : (x11.toInt = 1 ∧ 0 ≤ p0.toInt ∧ p0.toInt ≤ 11 ∧ (aI (G.2.1 (F a 10)) (10 * p0.toInt + 0)) ≠ -1) ∨ (x11.toInt = 0 ∧ (¬ (0 ≤ p0.toInt ∧ p0.toInt ≤ 11) ∨ (aI (G.2.1 (F a 10)) (10 * p0.toInt + 0)) = -1)))
    (c14 : x11.toInt ≠ 0)
    (c28 : p1.toInt = 0)
    (c36 : (aI (G.2.1 (F a 10)) (10 * p0.toInt + 6)) ≠ (0 : Int))
    (t79 : 0 ≤ x79.toInt ∧ x79.toInt ≤ 2388 ∧ 0 ≤ ((G79.1 a 19).toInt) ∧ ((G79.1 a 19).toInt) ≤ 2388) :
    ∀ j : Int, 0 ≤ j → j < (0 : Int) → aI (G79.2.1 (F a 17)) j = p0.toInt → fzq (G.2.1 (F a 10)) (mw (G.2.1 (F a 1)) 0) (aI (G79.2.1 (F a 17)) j) (aI (G79.2.1 (F a 18)) j) = 0 := by
  intro j h1 h2; exact absurd h1 (by omega)
theorem v_X11_later_61_14 {K : Nat → Nat} {F : Nat → Nat → Nat} (a : Nat) (G : XG) (G6 : XG) (G58 : XG) (x56 : Int32) (p0 : Int32) (p1 : Int32) (x11 : Int32)
    (ha : K a = 13)
    (hG58 : G58 = cput G6 (F a 10) x56.toNatClampNeg 1)
    (hR : RV (G.2.1 (F a 10)))
    (e56 : x56.toInt = (((10 : Int) * p0.toInt) + (6 : Int)))
    (z0 : p1.toInt = 0 ∨ p1.toInt = 1)
    (t6 : ((G6.1 a 20).toInt) = -2147483648 ∧ ((G6.1 a 21).toInt) = -2147483648 ∧ ((G6.1 a 23).toInt) = 0)
    (t11 : (x11.toInt = 1 ∧ 0 ≤ p0.toInt ∧ p0.toInt ≤ 11 ∧ (aI (G.2.1 (F a 10)) (10 * p0.toInt + 0)) ≠ -1) ∨ (x11.toInt = 0 ∧ (¬ (0 ≤ p0.toInt ∧ p0.toInt ≤ 11) ∨ (aI (G.2.1 (F a 10)) (10 * p0.toInt + 0)) = -1)))
    (c14 : x11.toInt ≠ 0)
    (c28 : p1.toInt = 0)
    (c36 : (aI (G.2.1 (F a 10)) (10 * p0.toInt + 6)) ≠ (0 : Int))
    (c43 : ¬ (p1.toInt = 0))
    (c_G6_F_a_10 : G6.2.1 (F a 10) = G.2.1 (F a 10)) :
    RV (G58.2.1 (F a 10)) := by
  exact hR.late (x := p0.toInt) (y := 1) (aI_pu hG58 c_G6_F_a_10 (by omega) (by decide) (by omega))
theorem v_X11_later_61_15 {F : Nat → Nat → Nat} (a : Nat) (G : XG) (G58 : XG)
    (hM : RM (G.2.1 (F a 1)) (0))
    (hB : RM (G.2.1 (F a 2)) 0)
    (c_G58_F_a_1 : G58.2.1 (F a 1) = G.2.1 (F a 1)) :
    RM (G58.2.1 (F a 1)) (0) := by simp only [c_G58_F_a_1]; assumption
theorem v_X11_later_61_16 {F : Nat → Nat → Nat} (a : Nat) (G : XG) (G58 : XG)
    (hM : RM (G.2.1 (F a 1)) (0))
    (hB : RM (G.2.1 (F a 2)) 0)
    (c_G58_F_a_2 : G58.2.1 (F a 2) = G.2.1 (F a 2)) :
    RM (G58.2.1 (F a 2)) 0 := by simp only [c_G58_F_a_2]; assumption
theorem v_X11_later_76_17 {K : Nat → Nat} {F : Nat → Nat → Nat} (a : Nat) (G : XG) (G6 : XG) (G58 : XG) (x56 : Int32) (G61 : XG) (G74 : XG) (p0 : Int32) (x61 : Int32) (p1 : Int32) (x11 : Int32)
    (ha : K a = 13)
    (hG58 : G58 = cput G6 (F a 10) x56.toNatClampNeg 1)
    (e56 : x56.toInt = (((10 : Int) * p0.toInt) + (6 : Int)))
    (oq61 : pL G61 F a = if ((G.1 a 6).toInt) = 0 then [] else fuO (G58.2.1 (F a 10)) (mw (G.2.1 (F a 1)) 0) (mw (G.2.1 (F a 2)) 0) 1)
    (oq61a : x61.toInt = cnP (pL G61 F a) p0.toInt)
    (z0 : p1.toInt = 0 ∨ p1.toInt = 1)
    (t6 : ((G6.1 a 20).toInt) = -2147483648 ∧ ((G6.1 a 21).toInt) = -2147483648 ∧ ((G6.1 a 23).toInt) = 0)
    (t11 : (x11.toInt = 1 ∧ 0 ≤ p0.toInt ∧ p0.toInt ≤ 11 ∧ (aI (G.2.1 (F a 10)) (10 * p0.toInt + 0)) ≠ -1) ∨ (x11.toInt = 0 ∧ (¬ (0 ≤ p0.toInt ∧ p0.toInt ≤ 11) ∨ (aI (G.2.1 (F a 10)) (10 * p0.toInt + 0)) = -1)))
    (c14 : x11.toInt ≠ 0)
    (c28 : p1.toInt = 0)
    (c36 : (aI (G.2.1 (F a 10)) (10 * p0.toInt + 6)) ≠ (0 : Int))
    (c43 : ¬ (p1.toInt = 0))
    (t61 : 0 ≤ x61.toInt ∧ x61.toInt ≤ 2388 ∧ 0 ≤ ((G61.1 a 19).toInt) ∧ ((G61.1 a 19).toInt) ≤ 2388)
    (c_G6_F_a_10 : G6.2.1 (F a 10) = G.2.1 (F a 10))
    (c_G74_F_a_10 : G74.2.1 (F a 10) = G58.2.1 (F a 10)) :
    (¬ (0 ≤ p0.toInt ∧ p0.toInt ≤ 11 ∧ aI (G.2.1 (F a 10)) (10 * p0.toInt + 0) ≠ -1) ∧ x61.toInt = -2 ∧ G74.2.1 (F a 10) = (G.2.1 (F a 10))) ∨ ((0 ≤ p0.toInt ∧ p0.toInt ≤ 11 ∧ aI (G.2.1 (F a 10)) (10 * p0.toInt + 0) ≠ -1) ∧ aI (G.2.1 (F a 10)) (10 * p0.toInt + 6) = p1.toInt ∧ x61.toInt = -4 ∧ G74.2.1 (F a 10) = (G.2.1 (F a 10))) ∨ ((0 ≤ p0.toInt ∧ p0.toInt ≤ 11 ∧ aI (G.2.1 (F a 10)) (10 * p0.toInt + 0) ≠ -1) ∧ aI (G.2.1 (F a 10)) (10 * p0.toInt + 6) ≠ p1.toInt ∧ p1.toInt = 1 ∧ (∀ z : Int, 0 ≤ z → aI (G74.2.1 (F a 10)) z = if z = 10 * p0.toInt + 6 then 1 else aI (G.2.1 (F a 10)) z) ∧ x61.toInt = cnP (if ((G.1 a 6).toInt) = 0 then [] else fuO (G74.2.1 (F a 10)) (mw (G.2.1 (F a 1)) 0) (mw (G.2.1 (F a 2)) 0) 1) p0.toInt) ∨ ((0 ≤ p0.toInt ∧ p0.toInt ≤ 11 ∧ aI (G.2.1 (F a 10)) (10 * p0.toInt + 0) ≠ -1) ∧ aI (G.2.1 (F a 10)) (10 * p0.toInt + 6) ≠ p1.toInt ∧ p1.toInt = 0 ∧ ((QFl (G.2.1 (F a 10)) (mw (G.2.1 (F a 1)) 0) (if ((G.1 a 6).toInt) = 0 then [] else fuO (G.2.1 (F a 10)) (mw (G.2.1 (F a 1)) 0) (mw (G.2.1 (F a 2)) 0) 1) p0.toInt ∧ x61.toInt = -5 ∧ G74.2.1 (F a 10) = (G.2.1 (F a 10))) ∨ (¬ QFl (G.2.1 (F a 10)) (mw (G.2.1 (F a 1)) 0) (if ((G.1 a 6).toInt) = 0 then [] else fuO (G.2.1 (F a 10)) (mw (G.2.1 (F a 1)) 0) (mw (G.2.1 (F a 2)) 0) 1) p0.toInt ∧ (∀ z : Int, 0 ≤ z → aI (G74.2.1 (F a 10)) z = if z = 10 * p0.toInt + 6 then 0 else aI (G.2.1 (F a 10)) z) ∧ x61.toInt = cnP (if ((G.1 a 6).toInt) = 0 then [] else fuO (G.2.1 (F a 10)) (mw (G.2.1 (F a 1)) 0) (mw (G.2.1 (F a 2)) 0) 1) p0.toInt))) := by
  refine Or.inr (Or.inr (Or.inl ⟨by omega, by omega, by omega, ?_, ?_⟩))
  · rw [c_G74_F_a_10]
    exact aI_pu hG58 c_G6_F_a_10 (by omega) (by decide) (by omega)
  · rw [c_G74_F_a_10, ← oq61]
    exact oq61a
theorem v_X11_later_76_18 {K : Nat → Nat} {F : Nat → Nat → Nat} (a : Nat) (G : XG) (G6 : XG) (G58 : XG) (x56 : Int32) (G61 : XG) (G74 : XG) (p0 : Int32) (x61 : Int32) (p1 : Int32) (x11 : Int32)
    (ha : K a = 13)
    (hG58 : G58 = cput G6 (F a 10) x56.toNatClampNeg 1)
    (hR : RV (G.2.1 (F a 10)))
    (e56 : x56.toInt = (((10 : Int) * p0.toInt) + (6 : Int)))
    (oq61a : x61.toInt = cnP (pL G61 F a) p0.toInt)
    (z0 : p1.toInt = 0 ∨ p1.toInt = 1)
    (t6 : ((G6.1 a 20).toInt) = -2147483648 ∧ ((G6.1 a 21).toInt) = -2147483648 ∧ ((G6.1 a 23).toInt) = 0)
    (t11 : (x11.toInt = 1 ∧ 0 ≤ p0.toInt ∧ p0.toInt ≤ 11 ∧ (aI (G.2.1 (F a 10)) (10 * p0.toInt + 0)) ≠ -1) ∨ (x11.toInt = 0 ∧ (¬ (0 ≤ p0.toInt ∧ p0.toInt ≤ 11) ∨ (aI (G.2.1 (F a 10)) (10 * p0.toInt + 0)) = -1)))
    (c14 : x11.toInt ≠ 0)
    (c28 : p1.toInt = 0)
    (c36 : (aI (G.2.1 (F a 10)) (10 * p0.toInt + 6)) ≠ (0 : Int))
    (c43 : ¬ (p1.toInt = 0))
    (t61 : 0 ≤ x61.toInt ∧ x61.toInt ≤ 2388 ∧ 0 ≤ ((G61.1 a 19).toInt) ∧ ((G61.1 a 19).toInt) ≤ 2388)
    (c_G6_F_a_10 : G6.2.1 (F a 10) = G.2.1 (F a 10))
    (c_G74_F_a_10 : G74.2.1 (F a 10) = G58.2.1 (F a 10)) :
    RV (G74.2.1 (F a 10)) := by
  rw [c_G74_F_a_10]
  exact hR.late (x := p0.toInt) (y := 1) (aI_pu hG58 c_G6_F_a_10 (by omega) (by decide) (by omega))
theorem v_X11_later_41_19 {K : Nat → Nat} {F : Nat → Nat → Nat} (a : Nat) (G : XG) (G6 : XG) (p0 : Int32) (p1 : Int32) (x11 : Int32)
    (ha : K a = 13)
    (z0 : p1.toInt = 0 ∨ p1.toInt = 1)
    (t6 : ((G6.1 a 20).toInt) = -2147483648 ∧ ((G6.1 a 21).toInt) = -2147483648 ∧ ((G6.1 a 23).toInt) = 0)
    (t11 : (x11.toInt = 1 ∧ 0 ≤ p0.toInt ∧ p0.toInt ≤ 11 ∧ (aI (G.2.1 (F a 10)) (10 * p0.toInt + 0)) ≠ -1) ∨ (x11.toInt = 0 ∧ (¬ (0 ≤ p0.toInt ∧ p0.toInt ≤ 11) ∨ (aI (G.2.1 (F a 10)) (10 * p0.toInt + 0)) = -1)))
    (c14 : x11.toInt ≠ 0)
    (c28 : p1.toInt = 0)
    (c36 : ¬ ((aI (G.2.1 (F a 10)) (10 * p0.toInt + 6)) ≠ (0 : Int)))
    (c_G6_F_a_10 : G6.2.1 (F a 10) = G.2.1 (F a 10)) :
    (¬ (0 ≤ p0.toInt ∧ p0.toInt ≤ 11 ∧ aI (G.2.1 (F a 10)) (10 * p0.toInt + 0) ≠ -1) ∧ (-4 : Int) = -2 ∧ G6.2.1 (F a 10) = (G.2.1 (F a 10))) ∨ ((0 ≤ p0.toInt ∧ p0.toInt ≤ 11 ∧ aI (G.2.1 (F a 10)) (10 * p0.toInt + 0) ≠ -1) ∧ aI (G.2.1 (F a 10)) (10 * p0.toInt + 6) = p1.toInt ∧ (-4 : Int) = -4 ∧ G6.2.1 (F a 10) = (G.2.1 (F a 10))) ∨ ((0 ≤ p0.toInt ∧ p0.toInt ≤ 11 ∧ aI (G.2.1 (F a 10)) (10 * p0.toInt + 0) ≠ -1) ∧ aI (G.2.1 (F a 10)) (10 * p0.toInt + 6) ≠ p1.toInt ∧ p1.toInt = 1 ∧ (∀ z : Int, 0 ≤ z → aI (G6.2.1 (F a 10)) z = if z = 10 * p0.toInt + 6 then 1 else aI (G.2.1 (F a 10)) z) ∧ (-4 : Int) = cnP (if ((G.1 a 6).toInt) = 0 then [] else fuO (G6.2.1 (F a 10)) (mw (G.2.1 (F a 1)) 0) (mw (G.2.1 (F a 2)) 0) 1) p0.toInt) ∨ ((0 ≤ p0.toInt ∧ p0.toInt ≤ 11 ∧ aI (G.2.1 (F a 10)) (10 * p0.toInt + 0) ≠ -1) ∧ aI (G.2.1 (F a 10)) (10 * p0.toInt + 6) ≠ p1.toInt ∧ p1.toInt = 0 ∧ ((QFl (G.2.1 (F a 10)) (mw (G.2.1 (F a 1)) 0) (if ((G.1 a 6).toInt) = 0 then [] else fuO (G.2.1 (F a 10)) (mw (G.2.1 (F a 1)) 0) (mw (G.2.1 (F a 2)) 0) 1) p0.toInt ∧ (-4 : Int) = -5 ∧ G6.2.1 (F a 10) = (G.2.1 (F a 10))) ∨ (¬ QFl (G.2.1 (F a 10)) (mw (G.2.1 (F a 1)) 0) (if ((G.1 a 6).toInt) = 0 then [] else fuO (G.2.1 (F a 10)) (mw (G.2.1 (F a 1)) 0) (mw (G.2.1 (F a 2)) 0) 1) p0.toInt ∧ (∀ z : Int, 0 ≤ z → aI (G6.2.1 (F a 10)) z = if z = 10 * p0.toInt + 6 then 0 else aI (G.2.1 (F a 10)) z) ∧ (-4 : Int) = cnP (if ((G.1 a 6).toInt) = 0 then [] else fuO (G.2.1 (F a 10)) (mw (G.2.1 (F a 1)) 0) (mw (G.2.1 (F a 2)) 0) 1) p0.toInt))) := by
  exact Or.inr (Or.inl ⟨by omega, by omega, rfl, by rw [c_G6_F_a_10]⟩)
theorem v_X11_later_41_20 {F : Nat → Nat → Nat} (a : Nat) (G : XG) (G6 : XG)
    (hR : RV (G.2.1 (F a 10)))
    (c_G6_F_a_10 : G6.2.1 (F a 10) = G.2.1 (F a 10)) :
    RV (G6.2.1 (F a 10)) := by
  rw [c_G6_F_a_10]; exact hR
theorem v_X11_later_79_21 {F : Nat → Nat → Nat} (a : Nat) (G : XG) (G6 : XG)
    (hR : RV (G.2.1 (F a 10)))
    (c_G6_F_a_10 : G6.2.1 (F a 10) = G.2.1 (F a 10)) :
    RV (G6.2.1 (F a 10)) := by simp only [c_G6_F_a_10]; assumption
theorem v_X11_later_79_22 {F : Nat → Nat → Nat} (a : Nat) (G : XG) (G6 : XG)
    (hM : RM (G.2.1 (F a 1)) (0))
    (hB : RM (G.2.1 (F a 2)) 0)
    (c_G6_F_a_1 : G6.2.1 (F a 1) = G.2.1 (F a 1)) :
    RM (G6.2.1 (F a 1)) (0) := by simp only [c_G6_F_a_1]; assumption
theorem v_X11_later_79_23 {F : Nat → Nat → Nat} (a : Nat) (G : XG) (G6 : XG)
    (hM : RM (G.2.1 (F a 1)) (0))
    (hB : RM (G.2.1 (F a 2)) 0)
    (c_G6_F_a_2 : G6.2.1 (F a 2) = G.2.1 (F a 2)) :
    RM (G6.2.1 (F a 2)) 0 := by simp only [c_G6_F_a_2]; assumption
theorem v_X11_later_82_24 {F : Nat → Nat → Nat} (a : Nat) (G : XG) (G79 : XG)
    (oq79 : pL G79 F a = if ((G.1 a 6).toInt) = 0 then [] else fuO (G.2.1 (F a 10)) (mw (G.2.1 (F a 1)) 0) (mw (G.2.1 (F a 2)) 0) 1) :
    PV (G.2.1 (F a 10)) (pL G79 F a) := by
  rw [oq79]
  split
  · intro x hx; cases hx
  · exact fuO_pv _ _ _ _
theorem v_X11_later_171_25 {K : Nat → Nat} {F : Nat → Nat → Nat} (a : Nat) (G : XG) (G6 : XG) (G79 : XG) (G_86 : XG) (G169 : XG) (x167 : Int32) (p0 : Int32) (x79 : Int32) (l4_86 : Int32) (p1 : Int32) (x11 : Int32) (N86 : Nat)
    (ha : K a = 13)
    (hG169 : G169 = cput G_86 (F a 10) x167.toNatClampNeg 0)
    (oq79 : pL G79 F a = if ((G.1 a 6).toInt) = 0 then [] else fuO (G.2.1 (F a 10)) (mw (G.2.1 (F a 1)) 0) (mw (G.2.1 (F a 2)) 0) 1)
    (oq79a : x79.toInt = cnP (pL G79 F a) p0.toInt)
    (pl : ∀ j : Int, 0 ≤ j → j < l4_86.toInt → aI (G79.2.1 (F a 17)) j = p0.toInt → fzq (G.2.1 (F a 10)) (mw (G.2.1 (F a 1)) 0) (aI (G79.2.1 (F a 17)) j) (aI (G79.2.1 (F a 18)) j) = 0)
    (e167 : x167.toInt = (((10 : Int) * p0.toInt) + (6 : Int)))
    (z0 : p1.toInt = 0 ∨ p1.toInt = 1)
    (t6 : ((G6.1 a 20).toInt) = -2147483648 ∧ ((G6.1 a 21).toInt) = -2147483648 ∧ ((G6.1 a 23).toInt) = 0)
    (t11 : (x11.toInt = 1 ∧ 0 ≤ p0.toInt ∧ p0.toInt ≤ 11 ∧ (aI (G.2.1 (F a 10)) (10 * p0.toInt + 0)) ≠ -1) ∨ (x11.toInt = 0 ∧ (¬ (0 ≤ p0.toInt ∧ p0.toInt ≤ 11) ∨ (aI (G.2.1 (F a 10)) (10 * p0.toInt + 0)) = -1)))
    (c14 : x11.toInt ≠ 0)
    (c28 : ¬ (p1.toInt = 0))
    (c36 : (aI (G.2.1 (F a 10)) (10 * p0.toInt + 6)) ≠ (1 : Int))
    (c43 : p1.toInt = 0)
    (t79 : 0 ≤ x79.toInt ∧ x79.toInt ≤ 2388 ∧ 0 ≤ ((G79.1 a 19).toInt) ∧ ((G79.1 a 19).toInt) ≤ 2388)
    (I86_0 : 0 ≤ l4_86.toInt ∧ l4_86.toInt ≤ ((G79.1 a 19).toInt))
    (I86_1 : (0 : Int) ≤ l4_86.toInt)
    (hm86 : 2147483648 - l4_86.toInt < (((N86) + 1 : Nat) : Int))
    (c92 : ((G79.1 a 19).toInt) ≤ l4_86.toInt)
    (c_G_86_F_a_10 : G_86.2.1 (F a 10) = G.2.1 (F a 10)) :
    (¬ (0 ≤ p0.toInt ∧ p0.toInt ≤ 11 ∧ aI (G.2.1 (F a 10)) (10 * p0.toInt + 0) ≠ -1) ∧ x79.toInt = -2 ∧ G169.2.1 (F a 10) = (G.2.1 (F a 10))) ∨ ((0 ≤ p0.toInt ∧ p0.toInt ≤ 11 ∧ aI (G.2.1 (F a 10)) (10 * p0.toInt + 0) ≠ -1) ∧ aI (G.2.1 (F a 10)) (10 * p0.toInt + 6) = p1.toInt ∧ x79.toInt = -4 ∧ G169.2.1 (F a 10) = (G.2.1 (F a 10))) ∨ ((0 ≤ p0.toInt ∧ p0.toInt ≤ 11 ∧ aI (G.2.1 (F a 10)) (10 * p0.toInt + 0) ≠ -1) ∧ aI (G.2.1 (F a 10)) (10 * p0.toInt + 6) ≠ p1.toInt ∧ p1.toInt = 1 ∧ (∀ z : Int, 0 ≤ z → aI (G169.2.1 (F a 10)) z = if z = 10 * p0.toInt + 6 then 1 else aI (G.2.1 (F a 10)) z) ∧ x79.toInt = cnP (if ((G.1 a 6).toInt) = 0 then [] else fuO (G169.2.1 (F a 10)) (mw (G.2.1 (F a 1)) 0) (mw (G.2.1 (F a 2)) 0) 1) p0.toInt) ∨ ((0 ≤ p0.toInt ∧ p0.toInt ≤ 11 ∧ aI (G.2.1 (F a 10)) (10 * p0.toInt + 0) ≠ -1) ∧ aI (G.2.1 (F a 10)) (10 * p0.toInt + 6) ≠ p1.toInt ∧ p1.toInt = 0 ∧ ((QFl (G.2.1 (F a 10)) (mw (G.2.1 (F a 1)) 0) (if ((G.1 a 6).toInt) = 0 then [] else fuO (G.2.1 (F a 10)) (mw (G.2.1 (F a 1)) 0) (mw (G.2.1 (F a 2)) 0) 1) p0.toInt ∧ x79.toInt = -5 ∧ G169.2.1 (F a 10) = (G.2.1 (F a 10))) ∨ (¬ QFl (G.2.1 (F a 10)) (mw (G.2.1 (F a 1)) 0) (if ((G.1 a 6).toInt) = 0 then [] else fuO (G.2.1 (F a 10)) (mw (G.2.1 (F a 1)) 0) (mw (G.2.1 (F a 2)) 0) 1) p0.toInt ∧ (∀ z : Int, 0 ≤ z → aI (G169.2.1 (F a 10)) z = if z = 10 * p0.toInt + 6 then 0 else aI (G.2.1 (F a 10)) z) ∧ x79.toInt = cnP (if ((G.1 a 6).toInt) = 0 then [] else fuO (G.2.1 (F a 10)) (mw (G.2.1 (F a 1)) 0) (mw (G.2.1 (F a 2)) 0) 1) p0.toInt))) := by
  refine Or.inr (Or.inr (Or.inr ⟨by omega, by omega, by omega, Or.inr ⟨?_, aI_pu hG169 c_G_86_F_a_10 (by omega) (by decide) (by omega), (by rw [← oq79]; exact oq79a)⟩⟩))
  rw [← oq79]
  rintro ⟨x, hx, hn, hf⟩
  obtain ⟨j, hj⟩ := List.mem_iff_getElem?.mp hx
  obtain ⟨h1, rfl⟩ := pL_get hj
  have := pl (j : Int) (by omega) (by omega) hn
  rw [this] at hf
  exact absurd hf (by decide)
theorem v_X11_later_171_26 {K : Nat → Nat} {F : Nat → Nat → Nat} (a : Nat) (G : XG) (G6 : XG) (G79 : XG) (G_86 : XG) (G169 : XG) (x167 : Int32) (p0 : Int32) (x79 : Int32) (l4_86 : Int32) (p1 : Int32) (x11 : Int32) (N86 : Nat)
    (ha : K a = 13)
    (hG169 : G169 = cput G_86 (F a 10) x167.toNatClampNeg 0)
    (hR : RV (G.2.1 (F a 10)))
    (oq79a : x79.toInt = cnP (pL G79 F a) p0.toInt)
    (e167 : x167.toInt = (((10 : Int) * p0.toInt) + (6 : Int)))
    (z0 : p1.toInt = 0 ∨ p1.toInt = 1)
    (t6 : ((G6.1 a 20).toInt) = -2147483648 ∧ ((G6.1 a 21).toInt) = -2147483648 ∧ ((G6.1 a 23).toInt) = 0)
    (t11 : (x11.toInt = 1 ∧ 0 ≤ p0.toInt ∧ p0.toInt ≤ 11 ∧ (aI (G.2.1 (F a 10)) (10 * p0.toInt + 0)) ≠ -1) ∨ (x11.toInt = 0 ∧ (¬ (0 ≤ p0.toInt ∧ p0.toInt ≤ 11) ∨ (aI (G.2.1 (F a 10)) (10 * p0.toInt + 0)) = -1)))
    (c14 : x11.toInt ≠ 0)
    (c28 : ¬ (p1.toInt = 0))
    (c36 : (aI (G.2.1 (F a 10)) (10 * p0.toInt + 6)) ≠ (1 : Int))
    (c43 : p1.toInt = 0)
    (t79 : 0 ≤ x79.toInt ∧ x79.toInt ≤ 2388 ∧ 0 ≤ ((G79.1 a 19).toInt) ∧ ((G79.1 a 19).toInt) ≤ 2388)
    (I86_0 : 0 ≤ l4_86.toInt ∧ l4_86.toInt ≤ ((G79.1 a 19).toInt))
    (I86_1 : (0 : Int) ≤ l4_86.toInt)
    (hm86 : 2147483648 - l4_86.toInt < (((N86) + 1 : Nat) : Int))
    (c92 : ((G79.1 a 19).toInt) ≤ l4_86.toInt)
    (c_G_86_F_a_10 : G_86.2.1 (F a 10) = G.2.1 (F a 10)) :
    RV (G169.2.1 (F a 10)) := by
  exact hR.late (x := p0.toInt) (y := 0) (aI_pu hG169 c_G_86_F_a_10 (by omega) (by decide) (by omega))
theorem v_X11_later_154_27 {K : Nat → Nat} {F : Nat → Nat → Nat} (a : Nat) (G : XG) (G6 : XG) (G79 : XG) (p0 : Int32) (x79 : Int32) (l4_86 : Int32) (p1 : Int32) (x11 : Int32) (N86 : Nat)
    (ha : K a = 13)
    (oq79a : x79.toInt = cnP (pL G79 F a) p0.toInt)
    (pl : ∀ j : Int, 0 ≤ j → j < l4_86.toInt → aI (G79.2.1 (F a 17)) j = p0.toInt → fzq (G.2.1 (F a 10)) (mw (G.2.1 (F a 1)) 0) (aI (G79.2.1 (F a 17)) j) (aI (G79.2.1 (F a 18)) j) = 0)
    (z0 : p1.toInt = 0 ∨ p1.toInt = 1)
    (t6 : ((G6.1 a 20).toInt) = -2147483648 ∧ ((G6.1 a 21).toInt) = -2147483648 ∧ ((G6.1 a 23).toInt) = 0)
    (t11 : (x11.toInt = 1 ∧ 0 ≤ p0.toInt ∧ p0.toInt ≤ 11 ∧ (aI (G.2.1 (F a 10)) (10 * p0.toInt + 0)) ≠ -1) ∨ (x11.toInt = 0 ∧ (¬ (0 ≤ p0.toInt ∧ p0.toInt ≤ 11) ∨ (aI (G.2.1 (F a 10)) (10 * p0.toInt + 0)) = -1)))
    (c14 : x11.toInt ≠ 0)
    (c28 : ¬ (p1.toInt = 0))
    (c36 : (aI (G.2.1 (F a 10)) (10 * p0.toInt + 6)) ≠ (1 : Int))
    (c43 : p1.toInt = 0)
    (t79 : 0 ≤ x79.toInt ∧ x79.toInt ≤ 2388 ∧ 0 ≤ ((G79.1 a 19).toInt) ∧ ((G79.1 a 19).toInt) ≤ 2388)
    (I86_0 : 0 ≤ l4_86.toInt ∧ l4_86.toInt ≤ ((G79.1 a 19).toInt))
    (I86_1 : (0 : Int) ≤ l4_86.toInt)
    (hm86 : 2147483648 - l4_86.toInt < (((N86) + 1 : Nat) : Int))
    (c92 : ¬ (((G79.1 a 19).toInt) ≤ l4_86.toInt))
    (c103 : (aI (G79.2.1 (F a 17)) (l4_86.toInt)) ≠ p0.toInt) :
    ∀ j : Int, 0 ≤ j → j < (l4_86.toInt + 1) → aI (G79.2.1 (F a 17)) j = p0.toInt → fzq (G.2.1 (F a 10)) (mw (G.2.1 (F a 1)) 0) (aI (G79.2.1 (F a 17)) j) (aI (G79.2.1 (F a 18)) j) = 0 := by
  intro j h1 h2 h3
  by_cases e : j = l4_86.toInt
  · subst e
    first
      | exact absurd h3 (by omega)
      | (have t9 : flq _ _ _ _ _ _ _ _ = 0 := t130.symm.trans c133
         rw [h3]
         exact t9)
  · exact pl j h1 (by omega) h3
theorem v_X11_later_130_28 {F : Nat → Nat → Nat} (a : Nat) (G : XG) (G115 : XG)
    (hR : RV (G.2.1 (F a 10)))
    (c_G115_F_a_10 : G115.2.1 (F a 10) = G.2.1 (F a 10)) :
    RV (G115.2.1 (F a 10)) := by simp only [c_G115_F_a_10]; assumption
theorem v_X11_later_130_29 {F : Nat → Nat → Nat} (a : Nat) (G : XG) (G115 : XG)
    (hM : RM (G.2.1 (F a 1)) (0))
    (hB : RM (G.2.1 (F a 2)) 0)
    (c_G115_F_a_1 : G115.2.1 (F a 1) = G.2.1 (F a 1)) :
    RM (G115.2.1 (F a 1)) (0 : Int) := by simp only [c_G115_F_a_1]; assumption
theorem v_X11_later_154_30 {K : Nat → Nat} {F : Nat → Nat → Nat} (a : Nat) (G : XG) (G6 : XG) (G79 : XG) (p0 : Int32) (x79 : Int32) (l4_86 : Int32) (p1 : Int32) (x11 : Int32) (N86 : Nat) (x130 : Int32)
    (ha : K a = 13)
    (oq79a : x79.toInt = cnP (pL G79 F a) p0.toInt)
    (pl : ∀ j : Int, 0 ≤ j → j < l4_86.toInt → aI (G79.2.1 (F a 17)) j = p0.toInt → fzq (G.2.1 (F a 10)) (mw (G.2.1 (F a 1)) 0) (aI (G79.2.1 (F a 17)) j) (aI (G79.2.1 (F a 18)) j) = 0)
    (z0 : p1.toInt = 0 ∨ p1.toInt = 1)
    (t6 : ((G6.1 a 20).toInt) = -2147483648 ∧ ((G6.1 a 21).toInt) = -2147483648 ∧ ((G6.1 a 23).toInt) = 0)
    (t11 : (x11.toInt = 1 ∧ 0 ≤ p0.toInt ∧ p0.toInt ≤ 11 ∧ (aI (G.2.1 (F a 10)) (10 * p0.toInt + 0)) ≠ -1) ∨ (x11.toInt = 0 ∧ (¬ (0 ≤ p0.toInt ∧ p0.toInt ≤ 11) ∨ (aI (G.2.1 (F a 10)) (10 * p0.toInt + 0)) = -1)))
    (c14 : x11.toInt ≠ 0)
    (c28 : ¬ (p1.toInt = 0))
    (c36 : (aI (G.2.1 (F a 10)) (10 * p0.toInt + 6)) ≠ (1 : Int))
    (c43 : p1.toInt = 0)
    (t79 : 0 ≤ x79.toInt ∧ x79.toInt ≤ 2388 ∧ 0 ≤ ((G79.1 a 19).toInt) ∧ ((G79.1 a 19).toInt) ≤ 2388)
    (I86_0 : 0 ≤ l4_86.toInt ∧ l4_86.toInt ≤ ((G79.1 a 19).toInt))
    (I86_1 : (0 : Int) ≤ l4_86.toInt)
    (hm86 : 2147483648 - l4_86.toInt < (((N86) + 1 : Nat) : Int))
    (c92 : ¬ (((G79.1 a 19).toInt) ≤ l4_86.toInt))
    (c103 : ¬ ((aI (G79.2.1 (F a 17)) (l4_86.toInt)) ≠ p0.toInt))
    (z116 : (0 ≤ (aI (G79.2.1 (F a 17)) (l4_86.toInt)) ∧ (aI (G79.2.1 (F a 17)) (l4_86.toInt)) ≤ 11) ∧ (aI (G.2.1 (F a 10)) (10 * aI (G79.2.1 (F a 17)) (l4_86.toInt) + 0)) ≠ -1 ∧ ((sF (aI (G.2.1 (F a 10)) (10 * aI (G79.2.1 (F a 17)) (l4_86.toInt) + 0))) ≤ (aI (G79.2.1 (F a 18)) (l4_86.toInt)) ∧ (aI (G79.2.1 (F a 18)) (l4_86.toInt)) ≤ (sL (aI (G.2.1 (F a 10)) (10 * aI (G79.2.1 (F a 17)) (l4_86.toInt) + 0)))))
    (z116a : ((sF (aI (G.2.1 (F a 10)) (10 * aI (G79.2.1 (F a 17)) (l4_86.toInt) + 0))) = 0 ∨ (sF (aI (G.2.1 (F a 10)) (10 * aI (G79.2.1 (F a 17)) (l4_86.toInt) + 0))) = -99) ∧ ((sL (aI (G.2.1 (F a 10)) (10 * aI (G79.2.1 (F a 17)) (l4_86.toInt) + 0))) = 29 ∨ (sL (aI (G.2.1 (F a 10)) (10 * aI (G79.2.1 (F a 17)) (l4_86.toInt) + 0))) = 99))
    (z116b : (aI (G79.2.1 (F a 17)) (l4_86.toInt)) = p0.toInt → (sF (aI (G.2.1 (F a 10)) (10 * aI (G79.2.1 (F a 17)) (l4_86.toInt) + 0))) = (sF (aI (G.2.1 (F a 10)) (10 * p0.toInt + 0))) ∧ (sL (aI (G.2.1 (F a 10)) (10 * aI (G79.2.1 (F a 17)) (l4_86.toInt) + 0))) = (sL (aI (G.2.1 (F a 10)) (10 * p0.toInt + 0))))
    (t130 : x130.toInt = (flq (mw (G.2.1 (F a 1)) 0) (aI (G.2.1 (F a 10)) (10 * p0.toInt + 0)) (aI (G.2.1 (F a 10)) (10 * p0.toInt + 1)) (aI (G.2.1 (F a 10)) (10 * p0.toInt + 2)) (aI (G.2.1 (F a 10)) (10 * p0.toInt + 4)) (aI (G.2.1 (F a 10)) (10 * p0.toInt + 5)) (aI (G79.2.1 (F a 18)) (l4_86.toInt)) (stt (mw (G.2.1 (F a 1)) 0) (aI (G.2.1 (F a 10)) (10 * p0.toInt + 0)) (aI (G.2.1 (F a 10)) (10 * p0.toInt + 1)) (aI (G.2.1 (F a 10)) (10 * p0.toInt + 2)) (aI (G.2.1 (F a 10)) (10 * p0.toInt + 3)) (aI (G79.2.1 (F a 18)) (l4_86.toInt)))))
    (f58 : x130.toInt = 0 ∨ x130.toInt = 1)
    (c133 : x130.toInt = 0) :
    ∀ j : Int, 0 ≤ j → j < (l4_86.toInt + 1) → aI (G79.2.1 (F a 17)) j = p0.toInt → fzq (G.2.1 (F a 10)) (mw (G.2.1 (F a 1)) 0) (aI (G79.2.1 (F a 17)) j) (aI (G79.2.1 (F a 18)) j) = 0 := by
  intro j h1 h2 h3
  by_cases e : j = l4_86.toInt
  · subst e
    first
      | exact absurd h3 (by omega)
      | (have t9 : flq _ _ _ _ _ _ _ _ = 0 := t130.symm.trans c133
         rw [h3]
         exact t9)
  · exact pl j h1 (by omega) h3
theorem v_X11_later_150_31 {K : Nat → Nat} {F : Nat → Nat → Nat} (a : Nat) (G : XG) (G6 : XG) (G79 : XG) (G145 : XG) (p0 : Int32) (x79 : Int32) (l4_86 : Int32) (p1 : Int32) (x11 : Int32) (N86 : Nat) (x130 : Int32)
    (ha : K a = 13)
    (oq79 : pL G79 F a = if ((G.1 a 6).toInt) = 0 then [] else fuO (G.2.1 (F a 10)) (mw (G.2.1 (F a 1)) 0) (mw (G.2.1 (F a 2)) 0) 1)
    (oq79a : x79.toInt = cnP (pL G79 F a) p0.toInt)
    (z0 : p1.toInt = 0 ∨ p1.toInt = 1)
    (t6 : ((G6.1 a 20).toInt) = -2147483648 ∧ ((G6.1 a 21).toInt) = -2147483648 ∧ ((G6.1 a 23).toInt) = 0)
    (t11 : (x11.toInt = 1 ∧ 0 ≤ p0.toInt ∧ p0.toInt ≤ 11 ∧ (aI (G.2.1 (F a 10)) (10 * p0.toInt + 0)) ≠ -1) ∨ (x11.toInt = 0 ∧ (¬ (0 ≤ p0.toInt ∧ p0.toInt ≤ 11) ∨ (aI (G.2.1 (F a 10)) (10 * p0.toInt + 0)) = -1)))
    (c14 : x11.toInt ≠ 0)
    (c28 : ¬ (p1.toInt = 0))
    (c36 : (aI (G.2.1 (F a 10)) (10 * p0.toInt + 6)) ≠ (1 : Int))
    (c43 : p1.toInt = 0)
    (t79 : 0 ≤ x79.toInt ∧ x79.toInt ≤ 2388 ∧ 0 ≤ ((G79.1 a 19).toInt) ∧ ((G79.1 a 19).toInt) ≤ 2388)
    (I86_0 : 0 ≤ l4_86.toInt ∧ l4_86.toInt ≤ ((G79.1 a 19).toInt))
    (I86_1 : (0 : Int) ≤ l4_86.toInt)
    (hm86 : 2147483648 - l4_86.toInt < (((N86) + 1 : Nat) : Int))
    (c92 : ¬ (((G79.1 a 19).toInt) ≤ l4_86.toInt))
    (c103 : ¬ ((aI (G79.2.1 (F a 17)) (l4_86.toInt)) ≠ p0.toInt))
    (z116 : (0 ≤ (aI (G79.2.1 (F a 17)) (l4_86.toInt)) ∧ (aI (G79.2.1 (F a 17)) (l4_86.toInt)) ≤ 11) ∧ (aI (G.2.1 (F a 10)) (10 * aI (G79.2.1 (F a 17)) (l4_86.toInt) + 0)) ≠ -1 ∧ ((sF (aI (G.2.1 (F a 10)) (10 * aI (G79.2.1 (F a 17)) (l4_86.toInt) + 0))) ≤ (aI (G79.2.1 (F a 18)) (l4_86.toInt)) ∧ (aI (G79.2.1 (F a 18)) (l4_86.toInt)) ≤ (sL (aI (G.2.1 (F a 10)) (10 * aI (G79.2.1 (F a 17)) (l4_86.toInt) + 0)))))
    (z116a : ((sF (aI (G.2.1 (F a 10)) (10 * aI (G79.2.1 (F a 17)) (l4_86.toInt) + 0))) = 0 ∨ (sF (aI (G.2.1 (F a 10)) (10 * aI (G79.2.1 (F a 17)) (l4_86.toInt) + 0))) = -99) ∧ ((sL (aI (G.2.1 (F a 10)) (10 * aI (G79.2.1 (F a 17)) (l4_86.toInt) + 0))) = 29 ∨ (sL (aI (G.2.1 (F a 10)) (10 * aI (G79.2.1 (F a 17)) (l4_86.toInt) + 0))) = 99))
    (z116b : (aI (G79.2.1 (F a 17)) (l4_86.toInt)) = p0.toInt → (sF (aI (G.2.1 (F a 10)) (10 * aI (G79.2.1 (F a 17)) (l4_86.toInt) + 0))) = (sF (aI (G.2.1 (F a 10)) (10 * p0.toInt + 0))) ∧ (sL (aI (G.2.1 (F a 10)) (10 * aI (G79.2.1 (F a 17)) (l4_86.toInt) + 0))) = (sL (aI (G.2.1 (F a 10)) (10 * p0.toInt + 0))))
    (t130 : x130.toInt = (flq (mw (G.2.1 (F a 1)) 0) (aI (G.2.1 (F a 10)) (10 * p0.toInt + 0)) (aI (G.2.1 (F a 10)) (10 * p0.toInt + 1)) (aI (G.2.1 (F a 10)) (10 * p0.toInt + 2)) (aI (G.2.1 (F a 10)) (10 * p0.toInt + 4)) (aI (G.2.1 (F a 10)) (10 * p0.toInt + 5)) (aI (G79.2.1 (F a 18)) (l4_86.toInt)) (stt (mw (G.2.1 (F a 1)) 0) (aI (G.2.1 (F a 10)) (10 * p0.toInt + 0)) (aI (G.2.1 (F a 10)) (10 * p0.toInt + 1)) (aI (G.2.1 (F a 10)) (10 * p0.toInt + 2)) (aI (G.2.1 (F a 10)) (10 * p0.toInt + 3)) (aI (G79.2.1 (F a 18)) (l4_86.toInt)))))
    (f59 : x130.toInt = 0 ∨ x130.toInt = 1)
    (c133 : ¬ (x130.toInt = 0))
    (t145 : ((G145.1 a 20).toInt) = p0.toInt ∧ ((G145.1 a 21).toInt) = (aI (G79.2.1 (F a 18)) (l4_86.toInt)) ∧ 0 ≤ ((G145.1 a 23).toInt) ∧ ((G145.1 a 23).toInt) ≤ 24)
    (c_G145_F_a_10 : G145.2.1 (F a 10) = G.2.1 (F a 10)) :
    (¬ (0 ≤ p0.toInt ∧ p0.toInt ≤ 11 ∧ aI (G.2.1 (F a 10)) (10 * p0.toInt + 0) ≠ -1) ∧ (-5 : Int) = -2 ∧ G145.2.1 (F a 10) = (G.2.1 (F a 10))) ∨ ((0 ≤ p0.toInt ∧ p0.toInt ≤ 11 ∧ aI (G.2.1 (F a 10)) (10 * p0.toInt + 0) ≠ -1) ∧ aI (G.2.1 (F a 10)) (10 * p0.toInt + 6) = p1.toInt ∧ (-5 : Int) = -4 ∧ G145.2.1 (F a 10) = (G.2.1 (F a 10))) ∨ ((0 ≤ p0.toInt ∧ p0.toInt ≤ 11 ∧ aI (G.2.1 (F a 10)) (10 * p0.toInt + 0) ≠ -1) ∧ aI (G.2.1 (F a 10)) (10 * p0.toInt + 6) ≠ p1.toInt ∧ p1.toInt = 1 ∧ (∀ z : Int, 0 ≤ z → aI (G145.2.1 (F a 10)) z = if z = 10 * p0.toInt + 6 then 1 else aI (G.2.1 (F a 10)) z) ∧ (-5 : Int) = cnP (if ((G.1 a 6).toInt) = 0 then [] else fuO (G145.2.1 (F a 10)) (mw (G.2.1 (F a 1)) 0) (mw (G.2.1 (F a 2)) 0) 1) p0.toInt) ∨ ((0 ≤ p0.toInt ∧ p0.toInt ≤ 11 ∧ aI (G.2.1 (F a 10)) (10 * p0.toInt + 0) ≠ -1) ∧ aI (G.2.1 (F a 10)) (10 * p0.toInt + 6) ≠ p1.toInt ∧ p1.toInt = 0 ∧ ((QFl (G.2.1 (F a 10)) (mw (G.2.1 (F a 1)) 0) (if ((G.1 a 6).toInt) = 0 then [] else fuO (G.2.1 (F a 10)) (mw (G.2.1 (F a 1)) 0) (mw (G.2.1 (F a 2)) 0) 1) p0.toInt ∧ (-5 : Int) = -5 ∧ G145.2.1 (F a 10) = (G.2.1 (F a 10))) ∨ (¬ QFl (G.2.1 (F a 10)) (mw (G.2.1 (F a 1)) 0) (if ((G.1 a 6).toInt) = 0 then [] else fuO (G.2.1 (F a 10)) (mw (G.2.1 (F a 1)) 0) (mw (G.2.1 (F a 2)) 0) 1) p0.toInt ∧ (∀ z : Int, 0 ≤ z → aI (G145.2.1 (F a 10)) z = if z = 10 * p0.toInt + 6 then 0 else aI (G.2.1 (F a 10)) z) ∧ (-5 : Int) = cnP (if ((G.1 a 6).toInt) = 0 then [] else fuO (G.2.1 (F a 10)) (mw (G.2.1 (F a 1)) 0) (mw (G.2.1 (F a 2)) 0) 1) p0.toInt))) := by
  refine Or.inr (Or.inr (Or.inr ⟨by omega, by omega, by omega, Or.inl ⟨?_, rfl, by rw [c_G145_F_a_10]⟩⟩))
  rw [← oq79]
  refine ⟨_, List.mem_of_getElem? (pL_at (z := l4_86.toInt) (by omega)), by show aI (G79.2.1 (F a 17)) l4_86.toInt = p0.toInt; omega, ?_⟩
  show fzq _ _ (aI (G79.2.1 (F a 17)) l4_86.toInt) (aI (G79.2.1 (F a 18)) l4_86.toInt) = 1
  rw [show aI (G79.2.1 (F a 17)) l4_86.toInt = p0.toInt from by omega]
  have h01 := flq01 (mw (G.2.1 (F a 1)) 0) (aI (G.2.1 (F a 10)) (10 * p0.toInt + 0)) (aI (G.2.1 (F a 10)) (10 * p0.toInt + 1)) (aI (G.2.1 (F a 10)) (10 * p0.toInt + 2)) (aI (G.2.1 (F a 10)) (10 * p0.toInt + 4)) (aI (G.2.1 (F a 10)) (10 * p0.toInt + 5)) (aI (G79.2.1 (F a 18)) l4_86.toInt) (stt (mw (G.2.1 (F a 1)) 0) (aI (G.2.1 (F a 10)) (10 * p0.toInt + 0)) (aI (G.2.1 (F a 10)) (10 * p0.toInt + 1)) (aI (G.2.1 (F a 10)) (10 * p0.toInt + 2)) (aI (G.2.1 (F a 10)) (10 * p0.toInt + 3)) (aI (G79.2.1 (F a 18)) l4_86.toInt))
  show flq _ _ _ _ _ _ _ _ = 1
  omega
theorem v_X11_later_150_32 {F : Nat → Nat → Nat} (a : Nat) (G : XG) (G145 : XG)
    (hR : RV (G.2.1 (F a 10)))
    (c_G145_F_a_10 : G145.2.1 (F a 10) = G.2.1 (F a 10)) :
    RV (G145.2.1 (F a 10)) := by
  rw [c_G145_F_a_10]; exact hR
theorem v_X11_later_84_33 {K : Nat → Nat} {F : Nat → Nat → Nat} (a : Nat) (G : XG) (G6 : XG) (G79 : XG) (p0 : Int32) (x79 : Int32) (p1 : Int32) (x11 : Int32)
    (ha : K a = 13)
    (oq79a : x79.toInt = cnP (pL G79 F a) p0.toInt)
    (z0 : p1.toInt = 0 ∨ p1.toInt = 1)
    (t6 : ((G6.1 a 20).toInt) = -2147483648 ∧ ((G6.1 a 21).toInt) = -2147483648 ∧ ((G6.1 a 23).toInt) = 0)
    (t11 : (x11.toInt = 1 ∧ 0 ≤ p0.toInt ∧ p0.toInt ≤ 11 ∧ (aI (G.2.1 (F a 10)) (10 * p0.toInt + 0)) ≠ -1) ∨ (x11.toInt = 0 ∧ (¬ (0 ≤ p0.toInt ∧ p0.toInt ≤ 11) ∨ (aI (G.2.1 (F a 10)) (10 * p0.toInt + 0)) = -1)))
    (c14 : x11.toInt ≠ 0)
    (c28 : ¬ (p1.toInt = 0))
    (c36 : (aI (G.2.1 (F a 10)) (10 * p0.toInt + 6)) ≠ (1 : Int))
    (c43 : p1.toInt = 0)
    (t79 : 0 ≤ x79.toInt ∧ x79.toInt ≤ 2388 ∧ 0 ≤ ((G79.1 a 19).toInt) ∧ ((G79.1 a 19).toInt) ≤ 2388) :
    ∀ j : Int, 0 ≤ j → j < (0 : Int) → aI (G79.2.1 (F a 17)) j = p0.toInt → fzq (G.2.1 (F a 10)) (mw (G.2.1 (F a 1)) 0) (aI (G79.2.1 (F a 17)) j) (aI (G79.2.1 (F a 18)) j) = 0 := by
  intro j h1 h2; exact absurd h1 (by omega)
theorem v_X11_later_61_34 {K : Nat → Nat} {F : Nat → Nat → Nat} (a : Nat) (G : XG) (G6 : XG) (G58 : XG) (x56 : Int32) (p0 : Int32) (p1 : Int32) (x11 : Int32)
    (ha : K a = 13)
    (hG58 : G58 = cput G6 (F a 10) x56.toNatClampNeg 1)
    (hR : RV (G.2.1 (F a 10)))
    (e56 : x56.toInt = (((10 : Int) * p0.toInt) + (6 : Int)))
    (z0 : p1.toInt = 0 ∨ p1.toInt = 1)
    (t6 : ((G6.1 a 20).toInt) = -2147483648 ∧ ((G6.1 a 21).toInt) = -2147483648 ∧ ((G6.1 a 23).toInt) = 0)
    (t11 : (x11.toInt = 1 ∧ 0 ≤ p0.toInt ∧ p0.toInt ≤ 11 ∧ (aI (G.2.1 (F a 10)) (10 * p0.toInt + 0)) ≠ -1) ∨ (x11.toInt = 0 ∧ (¬ (0 ≤ p0.toInt ∧ p0.toInt ≤ 11) ∨ (aI (G.2.1 (F a 10)) (10 * p0.toInt + 0)) = -1)))
    (c14 : x11.toInt ≠ 0)
    (c28 : ¬ (p1.toInt = 0))
    (c36 : (aI (G.2.1 (F a 10)) (10 * p0.toInt + 6)) ≠ (1 : Int))
    (c_G6_F_a_10 : G6.2.1 (F a 10) = G.2.1 (F a 10)) :
    RV (G58.2.1 (F a 10)) := by
  exact hR.late (x := p0.toInt) (y := 1) (aI_pu hG58 c_G6_F_a_10 (by omega) (by decide) (by omega))
theorem v_X11_later_61_35 {F : Nat → Nat → Nat} (a : Nat) (G : XG) (G58 : XG)
    (hM : RM (G.2.1 (F a 1)) (0))
    (hB : RM (G.2.1 (F a 2)) 0)
    (c_G58_F_a_1 : G58.2.1 (F a 1) = G.2.1 (F a 1)) :
    RM (G58.2.1 (F a 1)) (0) := by simp only [c_G58_F_a_1]; assumption
theorem v_X11_later_61_36 {F : Nat → Nat → Nat} (a : Nat) (G : XG) (G58 : XG)
    (hM : RM (G.2.1 (F a 1)) (0))
    (hB : RM (G.2.1 (F a 2)) 0)
    (c_G58_F_a_2 : G58.2.1 (F a 2) = G.2.1 (F a 2)) :
    RM (G58.2.1 (F a 2)) 0 := by simp only [c_G58_F_a_2]; assumption
theorem v_X11_later_76_37 {K : Nat → Nat} {F : Nat → Nat → Nat} (a : Nat) (G : XG) (G6 : XG) (G58 : XG) (x56 : Int32) (G61 : XG) (G74 : XG) (p0 : Int32) (x61 : Int32) (p1 : Int32) (x11 : Int32)
    (ha : K a = 13)
    (hG58 : G58 = cput G6 (F a 10) x56.toNatClampNeg 1)
    (e56 : x56.toInt = (((10 : Int) * p0.toInt) + (6 : Int)))
    (oq61 : pL G61 F a = if ((G.1 a 6).toInt) = 0 then [] else fuO (G58.2.1 (F a 10)) (mw (G.2.1 (F a 1)) 0) (mw (G.2.1 (F a 2)) 0) 1)
    (oq61a : x61.toInt = cnP (pL G61 F a) p0.toInt)
    (z0 : p1.toInt = 0 ∨ p1.toInt = 1)
    (t6 : ((G6.1 a 20).toInt) = -2147483648 ∧ ((G6.1 a 21).toInt) = -2147483648 ∧ ((G6.1 a 23).toInt) = 0)
    (t11 : (x11.toInt = 1 ∧ 0 ≤ p0.toInt ∧ p0.toInt ≤ 11 ∧ (aI (G.2.1 (F a 10)) (10 * p0.toInt + 0)) ≠ -1) ∨ (x11.toInt = 0 ∧ (¬ (0 ≤ p0.toInt ∧ p0.toInt ≤ 11) ∨ (aI (G.2.1 (F a 10)) (10 * p0.toInt + 0)) = -1)))
    (c14 : x11.toInt ≠ 0)
    (c28 : ¬ (p1.toInt = 0))
    (c36 : (aI (G.2.1 (F a 10)) (10 * p0.toInt + 6)) ≠ (1 : Int))
    (t61 : 0 ≤ x61.toInt ∧ x61.toInt ≤ 2388 ∧ 0 ≤ ((G61.1 a 19).toInt) ∧ ((G61.1 a 19).toInt) ≤ 2388)
    (c_G6_F_a_10 : G6.2.1 (F a 10) = G.2.1 (F a 10))
    (c_G74_F_a_10 : G74.2.1 (F a 10) = G58.2.1 (F a 10)) :
    (¬ (0 ≤ p0.toInt ∧ p0.toInt ≤ 11 ∧ aI (G.2.1 (F a 10)) (10 * p0.toInt + 0) ≠ -1) ∧ x61.toInt = -2 ∧ G74.2.1 (F a 10) = (G.2.1 (F a 10))) ∨ ((0 ≤ p0.toInt ∧ p0.toInt ≤ 11 ∧ aI (G.2.1 (F a 10)) (10 * p0.toInt + 0) ≠ -1) ∧ aI (G.2.1 (F a 10)) (10 * p0.toInt + 6) = p1.toInt ∧ x61.toInt = -4 ∧ G74.2.1 (F a 10) = (G.2.1 (F a 10))) ∨ ((0 ≤ p0.toInt ∧ p0.toInt ≤ 11 ∧ aI (G.2.1 (F a 10)) (10 * p0.toInt + 0) ≠ -1) ∧ aI (G.2.1 (F a 10)) (10 * p0.toInt + 6) ≠ p1.toInt ∧ p1.toInt = 1 ∧ (∀ z : Int, 0 ≤ z → aI (G74.2.1 (F a 10)) z = if z = 10 * p0.toInt + 6 then 1 else aI (G.2.1 (F a 10)) z) ∧ x61.toInt = cnP (if ((G.1 a 6).toInt) = 0 then [] else fuO (G74.2.1 (F a 10)) (mw (G.2.1 (F a 1)) 0) (mw (G.2.1 (F a 2)) 0) 1) p0.toInt) ∨ ((0 ≤ p0.toInt ∧ p0.toInt ≤ 11 ∧ aI (G.2.1 (F a 10)) (10 * p0.toInt + 0) ≠ -1) ∧ aI (G.2.1 (F a 10)) (10 * p0.toInt + 6) ≠ p1.toInt ∧ p1.toInt = 0 ∧ ((QFl (G.2.1 (F a 10)) (mw (G.2.1 (F a 1)) 0) (if ((G.1 a 6).toInt) = 0 then [] else fuO (G.2.1 (F a 10)) (mw (G.2.1 (F a 1)) 0) (mw (G.2.1 (F a 2)) 0) 1) p0.toInt ∧ x61.toInt = -5 ∧ G74.2.1 (F a 10) = (G.2.1 (F a 10))) ∨ (¬ QFl (G.2.1 (F a 10)) (mw (G.2.1 (F a 1)) 0) (if ((G.1 a 6).toInt) = 0 then [] else fuO (G.2.1 (F a 10)) (mw (G.2.1 (F a 1)) 0) (mw (G.2.1 (F a 2)) 0) 1) p0.toInt ∧ (∀ z : Int, 0 ≤ z → aI (G74.2.1 (F a 10)) z = if z = 10 * p0.toInt + 6 then 0 else aI (G.2.1 (F a 10)) z) ∧ x61.toInt = cnP (if ((G.1 a 6).toInt) = 0 then [] else fuO (G.2.1 (F a 10)) (mw (G.2.1 (F a 1)) 0) (mw (G.2.1 (F a 2)) 0) 1) p0.toInt))) := by
  refine Or.inr (Or.inr (Or.inl ⟨by omega, by omega, by omega, ?_, ?_⟩))
  · rw [c_G74_F_a_10]
    exact aI_pu hG58 c_G6_F_a_10 (by omega) (by decide) (by omega)
  · rw [c_G74_F_a_10, ← oq61]
    exact oq61a
theorem v_X11_later_76_38 {K : Nat → Nat} {F : Nat → Nat → Nat} (a : Nat) (G : XG) (G6 : XG) (G58 : XG) (x56 : Int32) (G61 : XG) (G74 : XG) (p0 : Int32) (x61 : Int32) (p1 : Int32) (x11 : Int32)
    (ha : K a = 13)
    (hG58 : G58 = cput G6 (F a 10) x56.toNatClampNeg 1)
    (hR : RV (G.2.1 (F a 10)))
    (e56 : x56.toInt = (((10 : Int) * p0.toInt) + (6 : Int)))
    (oq61a : x61.toInt = cnP (pL G61 F a) p0.toInt)
    (z0 : p1.toInt = 0 ∨ p1.toInt = 1)
    (t6 : ((G6.1 a 20).toInt) = -2147483648 ∧ ((G6.1 a 21).toInt) = -2147483648 ∧ ((G6.1 a 23).toInt) = 0)
    (t11 : (x11.toInt = 1 ∧ 0 ≤ p0.toInt ∧ p0.toInt ≤ 11 ∧ (aI (G.2.1 (F a 10)) (10 * p0.toInt + 0)) ≠ -1) ∨ (x11.toInt = 0 ∧ (¬ (0 ≤ p0.toInt ∧ p0.toInt ≤ 11) ∨ (aI (G.2.1 (F a 10)) (10 * p0.toInt + 0)) = -1)))
    (c14 : x11.toInt ≠ 0)
    (c28 : ¬ (p1.toInt = 0))
    (c36 : (aI (G.2.1 (F a 10)) (10 * p0.toInt + 6)) ≠ (1 : Int))
    (t61 : 0 ≤ x61.toInt ∧ x61.toInt ≤ 2388 ∧ 0 ≤ ((G61.1 a 19).toInt) ∧ ((G61.1 a 19).toInt) ≤ 2388)
    (c_G6_F_a_10 : G6.2.1 (F a 10) = G.2.1 (F a 10))
    (c_G74_F_a_10 : G74.2.1 (F a 10) = G58.2.1 (F a 10)) :
    RV (G74.2.1 (F a 10)) := by
  rw [c_G74_F_a_10]
  exact hR.late (x := p0.toInt) (y := 1) (aI_pu hG58 c_G6_F_a_10 (by omega) (by decide) (by omega))
theorem v_X11_later_41_39 {K : Nat → Nat} {F : Nat → Nat → Nat} (a : Nat) (G : XG) (G6 : XG) (p0 : Int32) (p1 : Int32) (x11 : Int32)
    (ha : K a = 13)
    (z0 : p1.toInt = 0 ∨ p1.toInt = 1)
    (t6 : ((G6.1 a 20).toInt) = -2147483648 ∧ ((G6.1 a 21).toInt) = -2147483648 ∧ ((G6.1 a 23).toInt) = 0)
    (t11 : (x11.toInt = 1 ∧ 0 ≤ p0.toInt ∧ p0.toInt ≤ 11 ∧ (aI (G.2.1 (F a 10)) (10 * p0.toInt + 0)) ≠ -1) ∨ (x11.toInt = 0 ∧ (¬ (0 ≤ p0.toInt ∧ p0.toInt ≤ 11) ∨ (aI (G.2.1 (F a 10)) (10 * p0.toInt + 0)) = -1)))
    (c14 : x11.toInt ≠ 0)
    (c28 : ¬ (p1.toInt = 0))
    (c36 : ¬ ((aI (G.2.1 (F a 10)) (10 * p0.toInt + 6)) ≠ (1 : Int)))
    (c_G6_F_a_10 : G6.2.1 (F a 10) = G.2.1 (F a 10)) :
    (¬ (0 ≤ p0.toInt ∧ p0.toInt ≤ 11 ∧ aI (G.2.1 (F a 10)) (10 * p0.toInt + 0) ≠ -1) ∧ (-4 : Int) = -2 ∧ G6.2.1 (F a 10) = (G.2.1 (F a 10))) ∨ ((0 ≤ p0.toInt ∧ p0.toInt ≤ 11 ∧ aI (G.2.1 (F a 10)) (10 * p0.toInt + 0) ≠ -1) ∧ aI (G.2.1 (F a 10)) (10 * p0.toInt + 6) = p1.toInt ∧ (-4 : Int) = -4 ∧ G6.2.1 (F a 10) = (G.2.1 (F a 10))) ∨ ((0 ≤ p0.toInt ∧ p0.toInt ≤ 11 ∧ aI (G.2.1 (F a 10)) (10 * p0.toInt + 0) ≠ -1) ∧ aI (G.2.1 (F a 10)) (10 * p0.toInt + 6) ≠ p1.toInt ∧ p1.toInt = 1 ∧ (∀ z : Int, 0 ≤ z → aI (G6.2.1 (F a 10)) z = if z = 10 * p0.toInt + 6 then 1 else aI (G.2.1 (F a 10)) z) ∧ (-4 : Int) = cnP (if ((G.1 a 6).toInt) = 0 then [] else fuO (G6.2.1 (F a 10)) (mw (G.2.1 (F a 1)) 0) (mw (G.2.1 (F a 2)) 0) 1) p0.toInt) ∨ ((0 ≤ p0.toInt ∧ p0.toInt ≤ 11 ∧ aI (G.2.1 (F a 10)) (10 * p0.toInt + 0) ≠ -1) ∧ aI (G.2.1 (F a 10)) (10 * p0.toInt + 6) ≠ p1.toInt ∧ p1.toInt = 0 ∧ ((QFl (G.2.1 (F a 10)) (mw (G.2.1 (F a 1)) 0) (if ((G.1 a 6).toInt) = 0 then [] else fuO (G.2.1 (F a 10)) (mw (G.2.1 (F a 1)) 0) (mw (G.2.1 (F a 2)) 0) 1) p0.toInt ∧ (-4 : Int) = -5 ∧ G6.2.1 (F a 10) = (G.2.1 (F a 10))) ∨ (¬ QFl (G.2.1 (F a 10)) (mw (G.2.1 (F a 1)) 0) (if ((G.1 a 6).toInt) = 0 then [] else fuO (G.2.1 (F a 10)) (mw (G.2.1 (F a 1)) 0) (mw (G.2.1 (F a 2)) 0) 1) p0.toInt ∧ (∀ z : Int, 0 ≤ z → aI (G6.2.1 (F a 10)) z = if z = 10 * p0.toInt + 6 then 0 else aI (G.2.1 (F a 10)) z) ∧ (-4 : Int) = cnP (if ((G.1 a 6).toInt) = 0 then [] else fuO (G.2.1 (F a 10)) (mw (G.2.1 (F a 1)) 0) (mw (G.2.1 (F a 2)) 0) 1) p0.toInt))) := by
  exact Or.inr (Or.inl ⟨by omega, by omega, rfl, by rw [c_G6_F_a_10]⟩)
theorem v_X11_later_41_40 {F : Nat → Nat → Nat} (a : Nat) (G : XG) (G6 : XG)
    (hR : RV (G.2.1 (F a 10)))
    (c_G6_F_a_10 : G6.2.1 (F a 10) = G.2.1 (F a 10)) :
    RV (G6.2.1 (F a 10)) := by
  rw [c_G6_F_a_10]; exact hR
theorem v_X11_later_19_41 {K : Nat → Nat} {F : Nat → Nat → Nat} (a : Nat) (G : XG) (G6 : XG) (p1 : Int32) (x11 : Int32) (p0 : Int32)
    (ha : K a = 13)
    (z0 : p1.toInt = 0 ∨ p1.toInt = 1)
    (t6 : ((G6.1 a 20).toInt) = -2147483648 ∧ ((G6.1 a 21).toInt) = -2147483648 ∧ ((G6.1 a 23).toInt) = 0)
    (t11 : (x11.toInt = 1 ∧ 0 ≤ p0.toInt ∧ p0.toInt ≤ 11 ∧ (aI (G.2.1 (F a 10)) (10 * p0.toInt + 0)) ≠ -1) ∨ (x11.toInt = 0 ∧ (¬ (0 ≤ p0.toInt ∧ p0.toInt ≤ 11) ∨ (aI (G.2.1 (F a 10)) (10 * p0.toInt + 0)) = -1)))
    (c14 : ¬ (x11.toInt ≠ 0))
    (c_G6_F_a_10 : G6.2.1 (F a 10) = G.2.1 (F a 10)) :
    (¬ (0 ≤ p0.toInt ∧ p0.toInt ≤ 11 ∧ aI (G.2.1 (F a 10)) (10 * p0.toInt + 0) ≠ -1) ∧ (-2 : Int) = -2 ∧ G6.2.1 (F a 10) = (G.2.1 (F a 10))) ∨ ((0 ≤ p0.toInt ∧ p0.toInt ≤ 11 ∧ aI (G.2.1 (F a 10)) (10 * p0.toInt + 0) ≠ -1) ∧ aI (G.2.1 (F a 10)) (10 * p0.toInt + 6) = p1.toInt ∧ (-2 : Int) = -4 ∧ G6.2.1 (F a 10) = (G.2.1 (F a 10))) ∨ ((0 ≤ p0.toInt ∧ p0.toInt ≤ 11 ∧ aI (G.2.1 (F a 10)) (10 * p0.toInt + 0) ≠ -1) ∧ aI (G.2.1 (F a 10)) (10 * p0.toInt + 6) ≠ p1.toInt ∧ p1.toInt = 1 ∧ (∀ z : Int, 0 ≤ z → aI (G6.2.1 (F a 10)) z = if z = 10 * p0.toInt + 6 then 1 else aI (G.2.1 (F a 10)) z) ∧ (-2 : Int) = cnP (if ((G.1 a 6).toInt) = 0 then [] else fuO (G6.2.1 (F a 10)) (mw (G.2.1 (F a 1)) 0) (mw (G.2.1 (F a 2)) 0) 1) p0.toInt) ∨ ((0 ≤ p0.toInt ∧ p0.toInt ≤ 11 ∧ aI (G.2.1 (F a 10)) (10 * p0.toInt + 0) ≠ -1) ∧ aI (G.2.1 (F a 10)) (10 * p0.toInt + 6) ≠ p1.toInt ∧ p1.toInt = 0 ∧ ((QFl (G.2.1 (F a 10)) (mw (G.2.1 (F a 1)) 0) (if ((G.1 a 6).toInt) = 0 then [] else fuO (G.2.1 (F a 10)) (mw (G.2.1 (F a 1)) 0) (mw (G.2.1 (F a 2)) 0) 1) p0.toInt ∧ (-2 : Int) = -5 ∧ G6.2.1 (F a 10) = (G.2.1 (F a 10))) ∨ (¬ QFl (G.2.1 (F a 10)) (mw (G.2.1 (F a 1)) 0) (if ((G.1 a 6).toInt) = 0 then [] else fuO (G.2.1 (F a 10)) (mw (G.2.1 (F a 1)) 0) (mw (G.2.1 (F a 2)) 0) 1) p0.toInt ∧ (∀ z : Int, 0 ≤ z → aI (G6.2.1 (F a 10)) z = if z = 10 * p0.toInt + 6 then 0 else aI (G.2.1 (F a 10)) z) ∧ (-2 : Int) = cnP (if ((G.1 a 6).toInt) = 0 then [] else fuO (G.2.1 (F a 10)) (mw (G.2.1 (F a 1)) 0) (mw (G.2.1 (F a 2)) 0) 1) p0.toInt))) := by
  exact Or.inl ⟨by omega, rfl, by rw [c_G6_F_a_10]⟩
theorem v_X11_later_19_42 {F : Nat → Nat → Nat} (a : Nat) (G : XG) (G6 : XG)
    (hR : RV (G.2.1 (F a 10)))
    (c_G6_F_a_10 : G6.2.1 (F a 10) = G.2.1 (F a 10)) :
    RV (G6.2.1 (F a 10)) := by
  rw [c_G6_F_a_10]; exact hR
theorem z_X11_later_1 (a0 : Int) (a1 : Int) (a2 : Int) (h0 : (a1 = 1 ∧ 0 ≤ a0 ∧ a0 ≤ 11 ∧ a2 ≠ -1) ∨ (a1 = 0 ∧ (¬ (0 ≤ a0 ∧ a0 ≤ 11) ∨ a2 = -1))) (h1 : a1 ≠ 0) : 0 ≤ a0 ∧ a0 ≤ 11 := by omega
theorem z_X11_later_2 (a0 : Int) (h0 : -2147483648 ≤ a0 ∧ a0 < 2147483648) : ¬ (2147483648 - a0 < ((0 : Nat) : Int)) := by omega
theorem z_X11_later_3 (a0 : Int) (a1 : Int) (a2 : Int) (a3 : Int) (h0 : (a1 = 1 ∧ 0 ≤ a0 ∧ a0 ≤ 11 ∧ a3 ≠ -1) ∨ (a1 = 0 ∧ (¬ (0 ≤ a0 ∧ a0 ≤ 11) ∨ a3 = -1))) (h1 : a1 ≠ 0) (h2 : a2 = ((10 : Int) * a0) ∨ ((10 : Int) * a0) < -2147483648 ∨ 2147483648 ≤ ((10 : Int) * a0)) : a2 = ((10 : Int) * a0) := by omega
theorem z_X11_later_4 (a0 : Int) (a1 : Int) (a2 : Int) (a3 : Int) (h0 : (a1 = 1 ∧ 0 ≤ a0 ∧ a0 ≤ 11 ∧ a3 ≠ -1) ∨ (a1 = 0 ∧ (¬ (0 ≤ a0 ∧ a0 ≤ 11) ∨ a3 = -1))) (h1 : a1 ≠ 0) (h2 : a2 = (((10 : Int) * a0) + (6 : Int)) ∨ (((10 : Int) * a0) + (6 : Int)) < -2147483648 ∨ 2147483648 ≤ (((10 : Int) * a0) + (6 : Int))) : a2 = (((10 : Int) * a0) + (6 : Int)) := by omega
theorem z_X11_later_5 (a0 : Int) (a1 : Int) (a2 : Int) (h0 : (a1 = 1 ∧ 0 ≤ a0 ∧ a0 ≤ 11 ∧ a2 ≠ -1) ∨ (a1 = 0 ∧ (¬ (0 ≤ a0 ∧ a0 ≤ 11) ∨ a2 = -1))) (h1 : a1 ≠ 0) : 0 ≤ (((10 : Int) * a0) + (6 : Int)) ∧ (((10 : Int) * a0) + (6 : Int)) < ((120 : Nat) : Int) := by omega
theorem z_X11_later_6 (a0 : Int) (a1 : Int) (a2 : Int) (h0 : a0 = -2147483648 ∧ a1 = -2147483648 ∧ a2 = 0) : (0 ≤ a2 ∧ a2 ≤ 24) := by omega
theorem z_X11_later_7 (a0 : Int) (a1 : Int) (a2 : Int) (h0 : 0 ≤ a1 ∧ a1 ≤ 2388 ∧ 0 ≤ a2 ∧ a2 ≤ 2388) (h1 : 0 ≤ a0 ∧ a0 ≤ a2) : 0 ≤ a0 ∧ a0 < ((2400 : Nat) : Int) := by omega
theorem z_X11_later_8 (a0 : Int) (a1 : Int) (a2 : Int) (a3 : Int) (h0 : 0 ≤ a2 ∧ a2 ≤ 2388 ∧ 0 ≤ a3 ∧ a3 ≤ 2388) (h1 : 0 ≤ a0 ∧ a0 ≤ a3) (h2 : a1 = (a0 + 1) ∨ (a0 + 1) < -2147483648 ∨ 2147483648 ≤ (a0 + 1)) : a1 = (a0 + 1) := by omega
theorem z_X11_later_9 (a0 : Int) (a1 : Int) (h0 : 0 ≤ a0 ∧ a0 ≤ a1) (h1 : ¬ (a1 ≤ a0)) : 0 ≤ (a0 + 1) ∧ (a0 + 1) ≤ a1 := by omega
theorem z_X11_later_10 (a0 : Int) (a1 : Int) (h0 : 0 ≤ a0 ∧ a0 ≤ a1) : (0 : Int) ≤ (a0 + 1) := by omega
theorem z_X11_later_11 (a0 : Int) (a1 : Nat) (h0 : 2147483648 - a0 < ((a1 + 1 : Nat) : Int)) : 2147483648 - (a0 + 1) < ((a1 : Nat) : Int) := by omega
theorem z_X11_later_12 (a0 : Int) (a1 : Int) (h0 : 0 ≤ a0 ∧ a0 ≤ a1) (h1 : ¬ (a1 ≤ a0)) : 0 ≤ a0 ∧ a0 < a1 := by omega
theorem z_X11_later_14 (a0 : Int) (a1 : Int) (h0 : ¬ (a1 ≠ a0)) (h1 : 0 ≤ a1 ∧ a1 ≤ 11) : 0 ≤ a0 ∧ a0 ≤ 11 := by omega
theorem z_X11_later_15 (a0 : Int) (a1 : Int) (a2 : Int) (h0 : (a1 = 1 ∧ 0 ≤ a0 ∧ a0 ≤ 11 ∧ a2 ≠ -1) ∨ (a1 = 0 ∧ (¬ (0 ≤ a0 ∧ a0 ≤ 11) ∨ a2 = -1))) (h1 : a1 ≠ 0) : a2 ≠ -1 := by omega
theorem z_X11_later_16 (a0 : Int) (a1 : Int) (a2 : Int) (a3 : Int) (a4 : Int) (a5 : Int) (a6 : Int) (h0 : ¬ (a1 ≠ a0)) (h1 : a3 ≤ a2 ∧ a2 ≤ a5) (h2 : a1 = a0 → a3 = a4 ∧ a5 = a6) : a4 ≤ a2 ∧ a2 ≤ a6 := by omega
theorem z_X11_later_23 (a0 : Int) (a1 : Int) (a2 : Int) (h0 : a1 ≤ a0 ∧ a0 ≤ a2) (h1 : a1 = 0 ∨ a1 = -99) (h2 : a2 = 29 ∨ a2 = 99) : -99 ≤ a0 ∧ a0 ≤ 99 := by omega
theorem z_X11_later_24 (a0 : Int) (a1 : Int) (a2 : Int) (a3 : Int) (a4 : Int) (h0 : a1 = a0 ∧ a2 = a4 ∧ 0 ≤ a3 ∧ a3 ≤ 24) : (0 ≤ a3 ∧ a3 ≤ 24) := by omega
theorem z_X11_later_25 (a0 : Int) (a1 : Int) (h0 : 0 ≤ a0 ∧ a0 ≤ 2388 ∧ 0 ≤ a1 ∧ a1 ≤ 2388) : 0 ≤ (0 : Int) ∧ (0 : Int) ≤ a1 := by omega
abbrev rm_X11_later : Room := { frames := 6, cells := 0, slots := 0, locals := 145 }
set_option maxHeartbeats 4000000 in
set_option maxRecDepth 100000 in
theorem c_X11_later (l : Launch) (E : XE) (K : Nat → Nat) (F : Nat → Nat → Nat) (G : XG) (a : Nat) (p0 : Int32) (p1 : Int32) (ha : K a = 13) (b1 : p1 = 0 ∨ p1 = 1) (hR : RV (G.2.1 (F a 10))) (hM : RM (G.2.1 (F a 1)) (0)) (hB : RM (G.2.1 (F a 2)) 0) : Met l yX11_later (xw yX11_later cX11_later 5 (some .int)) rm_X11_later (va_Pc [.ref a, .int p0, .int p1] (XP E K F G)) (XQ E (fun v (u : XG) => ∃ r : Int32, v = .int r ∧ XFr [(a, 16), (a, 19), (a, 20), (a, 21), (a, 23), (a, 0)] [F a 15, F a 17, F a 18, F a 11, F a 13, F a 22, F a 10, F a 8, F a 9] [] G u ∧ ((0 ≤ ((u.1 a 23).toInt) ∧ ((u.1 a 23).toInt) ≤ 24)) ∧ ((¬ (0 ≤ p0.toInt ∧ p0.toInt ≤ 11 ∧ aI (G.2.1 (F a 10)) (10 * p0.toInt + 0) ≠ -1) ∧ r.toInt = -2 ∧ u.2.1 (F a 10) = (G.2.1 (F a 10))) ∨ ((0 ≤ p0.toInt ∧ p0.toInt ≤ 11 ∧ aI (G.2.1 (F a 10)) (10 * p0.toInt + 0) ≠ -1) ∧ aI (G.2.1 (F a 10)) (10 * p0.toInt + 6) = p1.toInt ∧ r.toInt = -4 ∧ u.2.1 (F a 10) = (G.2.1 (F a 10))) ∨ ((0 ≤ p0.toInt ∧ p0.toInt ≤ 11 ∧ aI (G.2.1 (F a 10)) (10 * p0.toInt + 0) ≠ -1) ∧ aI (G.2.1 (F a 10)) (10 * p0.toInt + 6) ≠ p1.toInt ∧ p1.toInt = 1 ∧ (∀ z : Int, 0 ≤ z → aI (u.2.1 (F a 10)) z = if z = 10 * p0.toInt + 6 then 1 else aI (G.2.1 (F a 10)) z) ∧ r.toInt = cnP (if ((G.1 a 6).toInt) = 0 then [] else fuO (u.2.1 (F a 10)) (mw (G.2.1 (F a 1)) 0) (mw (G.2.1 (F a 2)) 0) 1) p0.toInt) ∨ ((0 ≤ p0.toInt ∧ p0.toInt ≤ 11 ∧ aI (G.2.1 (F a 10)) (10 * p0.toInt + 0) ≠ -1) ∧ aI (G.2.1 (F a 10)) (10 * p0.toInt + 6) ≠ p1.toInt ∧ p1.toInt = 0 ∧ ((QFl (G.2.1 (F a 10)) (mw (G.2.1 (F a 1)) 0) (if ((G.1 a 6).toInt) = 0 then [] else fuO (G.2.1 (F a 10)) (mw (G.2.1 (F a 1)) 0) (mw (G.2.1 (F a 2)) 0) 1) p0.toInt ∧ r.toInt = -5 ∧ u.2.1 (F a 10) = (G.2.1 (F a 10))) ∨ (¬ QFl (G.2.1 (F a 10)) (mw (G.2.1 (F a 1)) 0) (if ((G.1 a 6).toInt) = 0 then [] else fuO (G.2.1 (F a 10)) (mw (G.2.1 (F a 1)) 0) (mw (G.2.1 (F a 2)) 0) 1) p0.toInt ∧ (∀ z : Int, 0 ≤ z → aI (u.2.1 (F a 10)) z = if z = 10 * p0.toInt + 6 then 0 else aI (G.2.1 (F a 10)) z) ∧ r.toInt = cnP (if ((G.1 a 6).toInt) = 0 then [] else fuO (G.2.1 (F a 10)) (mw (G.2.1 (F a 1)) 0) (mw (G.2.1 (F a 2)) 0) 1) p0.toInt)))) ∧ (RV (u.2.1 (F a 10)))) (fun u H => TW E K F u H)) 0 0 (xA E) := by
  refine x_enter (by decide) (Nat.le_of_ble_eq_true rfl) ?_
  intro p e s m args below meth c Q S hr hlk hnm hQ hP ls hl
  obtain ⟨hz, hK, hT⟩ := hP
  obtain ⟨hx, hb, -, -, -⟩ := id S
  obtain ⟨H, hT, hS, hgo⟩ : ∃ H : Heap, TW E K F G H ∧ va_S (xA E) s.heap H [] ∧ H = s.heap := ⟨_, hT, va_S.rf, rfl⟩
  rw [← hgo]
  have hl : lv_has ls 5 [(0, .ref a), (1, .int p0), (2, .int p1)] := hl
  obtain ⟨hk9999, hj9999⟩ := fkX11_15 hT ha
  obtain ⟨hk9999a, hj9999a⟩ := fkX11_17 hT ha
  obtain ⟨hk9999b, hj9999b⟩ := fkX11_18 hT ha
  obtain ⟨hk9999c, hj9999c⟩ := fkX11_11 hT ha
  obtain ⟨hk9999d, hj9999d⟩ := fkX11_13 hT ha
  obtain ⟨hk9999e, hj9999e⟩ := fkX11_22 hT ha
  obtain ⟨hk9999f, hj9999f⟩ := fkX11_10 hT ha
  obtain ⟨hk9999g, hj9999g⟩ := fkX11_8 hT ha
  obtain ⟨hk9999h, hj9999h⟩ := fkX11_9 hT ha
  obtain ⟨hk9999i, hj9999i⟩ := fkX11_1 hT ha
  obtain ⟨hk9999j, hj9999j⟩ := fkX11_2 hT ha
  have z0 : p1.toInt = 0 ∨ p1.toInt = 1 := xzi b1
  refine lv_aload_n hx hb dX11_later_0 rfl (lv_at hl 0 rfl) ?_
  refine lv_iconst (v := 0) hx hb dX11_later_1 (by decide) ?_
  refine pX11_0 (v := 0) S hK hT hS ha kf_X11_134 dX11_later_2 (fun H locs hT hS => ?_)
  obtain ⟨G2, hG2⟩ : ∃ GG : XG, GG = dput G a 0 0 := ⟨_, rfl⟩
  rw [← hG2] at hT
  refine lv_aload_n hx hb dX11_later_5 rfl (lv_at hl 0 rfl) ?_
  refine x_cv0 (x_runV (b := a) (As := []) (rest := []) S (c_X11_nothing l E K F G2 a ha) mv_X11_nothing km_X11_231 rfl rfl ⟨Nat.le_of_ble_eq_true rfl, Nat.le_of_ble_eq_true rfl⟩ (rc_13 hK hT ha) hK (fun _ => XP.blind) (fun U hU hW => XP.at hK hz hS hT hU hW) rfl hl.1 (Nat.le_of_ble_eq_true rfl) dX11_later_6 ⟨Nat.le_of_ble_eq_true rfl, Nat.le_of_ble_eq_true rfl⟩) hS ?_
  rintro G6 H locs ⟨hF6, t6⟩ hT hS
  have t6 : ((G6.1 a 20).toInt) = -2147483648 ∧ ((G6.1 a 21).toInt) = -2147483648 ∧ ((G6.1 a 23).toInt) = 0 := t6
  refine lv_aload_n hx hb dX11_later_9 rfl (lv_at hl 0 rfl) ?_
  refine lv_iload_n hx hb dX11_later_10 rfl (lv_at hl 1 rfl) ?_
  refine x_clp (x_runV (b := a) (As := [.int p0]) (rest := []) S (c_X11_isRule l E K F G6 H a p0 ha) mv_X11_isRule km_X11_162 rfl rfl ⟨Nat.le_of_ble_eq_true rfl, Nat.le_of_ble_eq_true rfl⟩ (rc_13 hK hT ha) hK (fun _ => XPh.blind) (fun U hU hW => XPh.at hK hz hS hT hU hW) rfl hl.1 (Nat.le_of_ble_eq_true rfl) dX11_later_11 ⟨Nat.le_of_ble_eq_true rfl, Nat.le_of_ble_eq_true rfl⟩) hS ?_
  rintro _ _ locs ⟨x11, rfl, b11, t11⟩ hS
  have t11 : (x11.toInt = 1 ∧ 0 ≤ p0.toInt ∧ p0.toInt ≤ 11 ∧ (aI (G.2.1 (F a 10)) (10 * p0.toInt + 0)) ≠ -1) ∨ (x11.toInt = 0 ∧ (¬ (0 ≤ p0.toInt ∧ p0.toInt ≤ 11) ∨ (aI (G.2.1 (F a 10)) (10 * p0.toInt + 0)) = -1)) := by rw [(show G6.2.1 (F a 10) = G.2.1 (F a 10) from ((hF6.2.1 _ xn0).trans (ld_c hG2)))] at t11; exact t11
  refine xi_zne (tgt := 20) hx hb (rfl : Int32.toInt x11 = x11.toInt) dX11_later_14 (by decide) (fun c14 => ?_) (fun c14 => ?_)
  · refine lv_aload_n hx hb dX11_later_20 rfl (lv_at hl 0 rfl) ?_
    refine lv_iload_n hx hb dX11_later_21 rfl (lv_at hl 1 rfl) ?_
    refine lv_bipush (v := 6) hx hb dX11_later_22 (by decide) ?_
    refine x_clp (x_runV (b := a) (As := [.int p0, .int 6]) (rest := []) S (c_X11_of l E K F G6 H a p0 6 ha (z_X11_later_1 p0.toInt x11.toInt (aI (G.2.1 (F a 10)) (10 * p0.toInt + 0)) t11 c14) (by decide)) mv_X11_of km_X11_165 rfl rfl ⟨Nat.le_of_ble_eq_true rfl, Nat.le_of_ble_eq_true rfl⟩ (rc_13 hK hT ha) hK (fun _ => XPh.blind) (fun U hU hW => XPh.at hK hz hS hT hU hW) rfl hl.1 (Nat.le_of_ble_eq_true rfl) dX11_later_24 ⟨Nat.le_of_ble_eq_true rfl, Nat.le_of_ble_eq_true rfl⟩) hS ?_
    rintro _ _ locs ⟨x24, rfl, t24⟩ hS
    have t24 : x24.toInt = (aI (G.2.1 (F a 10)) (10 * p0.toInt + 6)) := by rw [(show G6.2.1 (F a 10) = G.2.1 (F a 10) from ((hF6.2.1 _ xn0).trans (ld_c hG2)))] at t24; exact t24
    refine lv_iload_n hx hb dX11_later_27 rfl (lv_at hl 2 rfl) ?_
    refine xi_zeq (tgt := 35) hx hb (rfl : Int32.toInt p1 = p1.toInt) dX11_later_28 (by decide) (fun c28 => ?_) (fun c28 => ?_)
    · refine lv_iconst (v := 0) hx hb dX11_later_35 (by decide) ?_
      refine xi_cne (tgt := 42) hx hb (t24 : Int32.toInt x24 = (aI (G.2.1 (F a 10)) (10 * p0.toInt + 6))) ((by decide) : Int32.toInt 0 = (0 : Int)) dX11_later_36 (by decide) (fun c36 => ?_) (fun c36 => ?_)
      · refine lv_iload_n hx hb dX11_later_42 rfl (lv_at hl 2 rfl) ?_
        refine xi_zeq (tgt := 77) hx hb (rfl : Int32.toInt p1 = p1.toInt) dX11_later_43 (by decide) (fun c43 => ?_) (fun c43 => ?_)
        · refine lv_aload_n hx hb dX11_later_77 rfl (lv_at hl 0 rfl) ?_
          refine lv_iload_n hx hb dX11_later_78 rfl (lv_at hl 1 rfl) ?_
          refine x_cl0 (x_runV (b := a) (As := [.int p0]) (rest := []) S (c_X11_inQueue l E K F G6 a p0 ha (v_X11_later_79_1 (F := F) a G G6 hR ((hF6.2.1 _ xn0).trans (ld_c hG2))) (v_X11_later_79_2 (F := F) a G G6 hM hB ((hF6.2.1 _ xn0).trans (ld_c hG2))) (v_X11_later_79_3 (F := F) a G G6 hM hB ((hF6.2.1 _ xn0).trans (ld_c hG2)))) mv_X11_inQueue km_X11_306 rfl rfl ⟨Nat.le_of_ble_eq_true rfl, Nat.le_of_ble_eq_true rfl⟩ (rc_13 hK hT ha) hK (fun _ => XP.blind) (fun U hU hW => XP.at hK hz hS hT hU hW) rfl hl.1 (Nat.le_of_ble_eq_true rfl) dX11_later_79 ⟨Nat.le_of_ble_eq_true rfl, Nat.le_of_ble_eq_true rfl⟩) hS ?_
          rintro _ G79 H locs ⟨x79, rfl, hF79, t79, oq79, oq79a⟩ hT hS
          have t79 : 0 ≤ x79.toInt ∧ x79.toInt ≤ 2388 ∧ 0 ≤ ((G79.1 a 19).toInt) ∧ ((G79.1 a 19).toInt) ≤ 2388 := t79
          have oq79 : pL G79 F a = if ((G.1 a 6).toInt) = 0 then [] else fuO (G.2.1 (F a 10)) (mw (G.2.1 (F a 1)) 0) (mw (G.2.1 (F a 2)) 0) 1 := by simp only [(show G6.1 a 6 = G.1 a 6 from ((hF6.1 _ _ (xnj (by decide) (xnj (by decide) (xnj (by decide) xn0)))).trans (ld_j hG2 (by decide)))), (show G6.2.1 (F a 10) = G.2.1 (F a 10) from ((hF6.2.1 _ xn0).trans (ld_c hG2))), (show G6.2.1 (F a 1) = G.2.1 (F a 1) from ((hF6.2.1 _ xn0).trans (ld_c hG2))), (show G6.2.1 (F a 2) = G.2.1 (F a 2) from ((hF6.2.1 _ xn0).trans (ld_c hG2)))] at oq79; exact oq79
          have hv79 : PV (G.2.1 (F a 10)) (pL G79 F a) := (v_X11_later_82_4 (F := F) a G G79 oq79)
          refine lv_istore_n (lv' := [(3, .int x79), (0, .ref a), (1, .int p0), (2, .int p1)]) hx hb dX11_later_82 rfl hl (by decide) rfl (fun ls hl => ?_)
          refine lv_iconst (v := 0) hx hb dX11_later_83 (by decide) ?_
          refine lv_istore (lv' := [(4, .int 0), (3, .int x79), (0, .ref a), (1, .int p0), (2, .int p1)]) hx hb dX11_later_84 hl (by decide) rfl (fun ls hl => ?_)
          have L86 : ∀ (N86 : Nat) (l4_86 : Int32) (G_86 : XG) (H : Heap) (locs : List Loc) (ls : Array Slot), XFr [] [F a 9] [] G79 G_86 → (∀ j : Int, 0 ≤ j → j < l4_86.toInt → aI (G79.2.1 (F a 17)) j = p0.toInt → fzq (G.2.1 (F a 10)) (mw (G.2.1 (F a 1)) 0) (aI (G79.2.1 (F a 17)) j) (aI (G79.2.1 (F a 18)) j) = 0) → 0 ≤ l4_86.toInt ∧ l4_86.toInt ≤ ((G79.1 a 19).toInt) → (0 : Int) ≤ l4_86.toInt → 2147483648 - l4_86.toInt < ((N86 : Nat) : Int) → TW E K F G_86 H → va_S (xA E) s.heap H locs → lv_has ls 5 [(0, .ref a), (1, .int p0), (3, .int x79), (4, .int l4_86)] → W p l e rm_X11_later s m args below meth c H locs 0 0 Q (F0 m 86 ls []) := by
            intro N86
            induction N86 with
            | zero =>
              intro l4_86 G_86 H locs ls hF_86 pl I86_0 I86_1 hm86
              exact absurd hm86 (z_X11_later_2 l4_86.toInt (xr l4_86))
            | succ N86 ih86 =>
              intro l4_86 G_86 H locs ls hF_86 pl I86_0 I86_1 hm86 hT hS hl
              refine lv_iload hx hb dX11_later_86 (lv_at hl 3 rfl) ?_
              refine lv_aload_n hx hb dX11_later_88 rfl (lv_at hl 0 rfl) ?_
              refine gX11_19 S hK hT ha kf_X11_203 dX11_later_89 (v := (G79.1 a 19)) (hF_86.1 _ _ xn0) (?_)
              refine xi_cge (tgt := 157) hx hb (rfl : Int32.toInt l4_86 = l4_86.toInt) (rfl : Int32.toInt (G79.1 a 19) = ((G79.1 a 19).toInt)) dX11_later_92 (by decide) (fun c92 => ?_) (fun c92 => ?_)
              · refine lv_aload_n hx hb dX11_later_157 rfl (lv_at hl 0 rfl) ?_
                refine gX11_10 S hK hT ha kf_X11_33 dX11_later_158 (fun _ _ => ?_)
                refine lv_bipush (v := 10) hx hb dX11_later_161 (by decide) ?_
                refine lv_iload_n hx hb dX11_later_163 rfl (lv_at hl 1 rfl) ?_
                refine xi_imul hx hb ((by decide) : Int32.toInt 10 = (10 : Int)) (rfl : Int32.toInt p0 = p0.toInt) dX11_later_164 (fun x164 t164 => ?_)
                have e164 : x164.toInt = ((10 : Int) * p0.toInt) := (z_X11_later_3 p0.toInt x11.toInt x164.toInt (aI (G.2.1 (F a 10)) (10 * p0.toInt + 0)) t11 c14 t164)
                refine lv_bipush (v := 6) hx hb dX11_later_165 (by decide) ?_
                refine xi_iadd hx hb (e164 : Int32.toInt x164 = ((10 : Int) * p0.toInt)) ((by decide) : Int32.toInt 6 = (6 : Int)) dX11_later_167 (fun x167 t167 => ?_)
                have e167 : x167.toInt = (((10 : Int) * p0.toInt) + (6 : Int)) := (z_X11_later_4 p0.toInt x11.toInt x167.toInt (aI (G.2.1 (F a 10)) (10 * p0.toInt + 0)) t11 c14 t167)
                refine lv_iconst (v := 0) hx hb dX11_later_168 (by decide) ?_
                refine as_0 (x := 0) S hK hT hS hk9999f ar_37 aw_37 (by decide) (by rw [(e167 : Int32.toInt x167 = (((10 : Int) * p0.toInt) + (6 : Int)))]; exact (z_X11_later_5 p0.toInt x11.toInt (aI (G.2.1 (F a 10)) (10 * p0.toInt + 0)) t11 c14)) dX11_later_169 (fun H locs hT hS => ?_)
                obtain ⟨G169, hG169⟩ : ∃ GG : XG, GG = cput G_86 (F a 10) x167.toNatClampNeg 0 := ⟨_, rfl⟩
                rw [← hG169] at hT
                refine lv_iload_n hx hb dX11_later_170 rfl (lv_at hl 2 rfl) ?_
                exact x_ri hx hb hr hlk hQ (Nat.le_of_ble_eq_true rfl) (Nat.le_of_ble_eq_true rfl) hS dX11_later_171 G169 ⟨_, rfl, (by rw [hG169]; exact XFr.cput (XFr.call (XFr.call (XFr.call (by rw [hG2]; exact XFr.dput XFr.rf (List.mem_of_getElem? (i := 5) rfl)) hF6 (xm1 2 rfl (xm1 3 rfl (xm1 4 rfl xm0))) xm0 xm0) hF79 (xm1 0 rfl (xm1 1 rfl xm0)) (xm1 0 rfl (xm1 1 rfl (xm1 2 rfl (xm1 3 rfl (xm1 4 rfl xm0))))) xm0) hF_86 xm0 (xm1 8 rfl xm0) xm0) (List.mem_of_getElem? (i := 6) rfl)), (by rw [(show (G169.1 a 23).toInt = ((G6.1 a 23).toInt) from (congrArg Int32.toInt ((lc_d hG169).trans ((hF_86.1 _ _ xn0).trans (hF79.1 _ _ (xnj (by decide) (xnj (by decide) xn0)))))).trans (rfl : Int32.toInt (G6.1 a 23) = ((G6.1 a 23).toInt)))] <;> exact (z_X11_later_6 ((G6.1 a 20).toInt) ((G6.1 a 21).toInt) ((G6.1 a 23).toInt) t6)), (v_X11_later_171_5 (K := K) (F := F) a G G6 G79 G_86 G169 x167 p0 x79 l4_86 p1 x11 N86 ha hG169 oq79 oq79a pl e167 z0 t6 t11 c14 c28 c36 t79 I86_0 I86_1 hm86 c92 ((hF_86.2.1 _ (xn1 (xne_k hk9999f hk9999h (by decide)) xn0)).trans ((hF79.2.1 _ (xn1 (xne_k hk9999f hk9999 (by decide)) (xn1 (xne_k hk9999f hk9999a (by decide)) (xn1 (xne_k hk9999f hk9999b (by decide)) (xn1 (xne_k hk9999f hk9999c (by decide)) (xn1 (xne_k hk9999f hk9999d (by decide)) xn0)))))).trans ((hF6.2.1 _ xn0).trans (ld_c hG2))))), (v_X11_later_171_6 (K := K) (F := F) a G G6 G79 G_86 G169 x167 p0 x79 l4_86 p1 x11 N86 ha hG169 hR oq79a e167 z0 t6 t11 c14 c28 c36 t79 I86_0 I86_1 hm86 c92 ((hF_86.2.1 _ (xn1 (xne_k hk9999f hk9999h (by decide)) xn0)).trans ((hF79.2.1 _ (xn1 (xne_k hk9999f hk9999 (by decide)) (xn1 (xne_k hk9999f hk9999a (by decide)) (xn1 (xne_k hk9999f hk9999b (by decide)) (xn1 (xne_k hk9999f hk9999c (by decide)) (xn1 (xne_k hk9999f hk9999d (by decide)) xn0)))))).trans ((hF6.2.1 _ xn0).trans (ld_c hG2)))))⟩ hT
              · refine lv_aload_n hx hb dX11_later_95 rfl (lv_at hl 0 rfl) ?_
                refine gX11_17 S hK hT ha kf_X11_51 dX11_later_96 (fun _ _ => ?_)
                refine lv_iload hx hb dX11_later_99 (lv_at hl 3 rfl) ?_
                refine al_0 S hK hT hk9999a ar_43 (by decide) (z_X11_later_7 l4_86.toInt x79.toInt ((G79.1 a 19).toInt) t79 I86_0) dX11_later_101 (fun x101 hv101 o101 => ?_)
                have hv101 : x101.toInt = (aI (G79.2.1 (F a 17)) (l4_86.toInt)) := hv101.trans (by rw [(rfl : Int32.toInt l4_86 = l4_86.toInt), ((hF_86.2.1 _ (xn1 (xne_k hk9999a hk9999h (by decide)) xn0)) : G_86.2.1 (F a 17) = G79.2.1 (F a 17))])
                refine lv_iload_n hx hb dX11_later_102 rfl (lv_at hl 1 rfl) ?_
                refine xi_cne (tgt := 151) hx hb (hv101 : Int32.toInt x101 = (aI (G79.2.1 (F a 17)) (l4_86.toInt))) (rfl : Int32.toInt p0 = p0.toInt) dX11_later_103 (by decide) (fun c103 => ?_) (fun c103 => ?_)
                · refine xi_iinc (n := 1) (lv' := fun z9 => [(4, .int z9), (0, .ref a), (1, .int p0), (3, .int x79)]) (k := 3) hx hb (rfl : Int32.toInt l4_86 = l4_86.toInt) (by decide) dX11_later_151 hl rfl (by decide) (fun _ => rfl) (fun x151 ls t151 hl => ?_)
                  have e151 : x151.toInt = (l4_86.toInt + 1) := (z_X11_later_8 l4_86.toInt x151.toInt x79.toInt ((G79.1 a 19).toInt) t79 I86_0 t151)
                  have hl : lv_has ls 5 [(4, .int x151), (0, .ref a), (1, .int p0), (3, .int x79)] := hl
                  refine lv_goto (tgt := 86) hx hb dX11_later_154 (by decide) ?_
                  exact ih86 x151 G_86 _ _ _ (XFr.call XFr.rf hF_86 xm0 (xm1 0 rfl xm0) xm0) (by rw [(e151 : Int32.toInt x151 = (l4_86.toInt + 1))] <;> exact (v_X11_later_154_7 (K := K) (F := F) a G G6 G79 p0 x79 l4_86 p1 x11 N86 ha oq79a pl z0 t6 t11 c14 c28 c36 t79 I86_0 I86_1 hm86 c92 c103)) (by rw [(e151 : Int32.toInt x151 = (l4_86.toInt + 1))] <;> exact (z_X11_later_9 l4_86.toInt ((G79.1 a 19).toInt) I86_0 c92)) (by rw [(e151 : Int32.toInt x151 = (l4_86.toInt + 1))] <;> exact (z_X11_later_10 l4_86.toInt ((G79.1 a 19).toInt) I86_0)) (by rw [(e151 : Int32.toInt x151 = (l4_86.toInt + 1))] <;> exact (z_X11_later_11 l4_86.toInt N86 hm86)) hT hS (lv_sub hl [1, 2, 3, 0] rfl)
                · refine lv_aload_n hx hb dX11_later_106 rfl (lv_at hl 0 rfl) ?_
                  refine gX11_9 S hK hT ha kf_X11_30 dX11_later_107 (fun _ _ => ?_)
                  refine lv_iconst (v := 0) hx hb dX11_later_110 (by decide) ?_
                  refine lv_dup2_11 hx hb dX11_later_111 rfl rfl ?_
                  refine al_0 S hK hT hk9999h ar_36 (by decide) (by decide) dX11_later_112 (fun x112 hv112 o112 => ?_)
                  have hv112 : x112.toInt = (aI (G_86.2.1 (F a 9)) 0) := hv112.trans (by rw [((by decide) : Int32.toInt 0 = (0 : Int))])
                  refine lv_iconst (v := 1) hx hb dX11_later_113 (by decide) ?_
                  refine xi_iadd hx hb (hv112 : Int32.toInt x112 = (aI (G_86.2.1 (F a 9)) 0)) ((by decide) : Int32.toInt 1 = (1 : Int)) dX11_later_114 (fun x114 t114 => ?_)
                  refine as_0 (x := x114) S hK hT hS hk9999h ar_36 aw_36 (by decide) (by decide) dX11_later_115 (fun H locs hT hS => ?_)
                  obtain ⟨G115, hG115⟩ : ∃ GG : XG, GG = cput G_86 (F a 9) (0 : Int32).toNatClampNeg x114 := ⟨_, rfl⟩
                  rw [← hG115] at hT
                  have z116 : (0 ≤ (aI (G79.2.1 (F a 17)) (l4_86.toInt)) ∧ (aI (G79.2.1 (F a 17)) (l4_86.toInt)) ≤ 11) ∧ (aI (G.2.1 (F a 10)) (10 * aI (G79.2.1 (F a 17)) (l4_86.toInt) + 0)) ≠ -1 ∧ ((sF (aI (G.2.1 (F a 10)) (10 * aI (G79.2.1 (F a 17)) (l4_86.toInt) + 0))) ≤ (aI (G79.2.1 (F a 18)) (l4_86.toInt)) ∧ (aI (G79.2.1 (F a 18)) (l4_86.toInt)) ≤ (sL (aI (G.2.1 (F a 10)) (10 * aI (G79.2.1 (F a 17)) (l4_86.toInt) + 0)))) := pv_at hv79 (z_X11_later_12 l4_86.toInt ((G79.1 a 19).toInt) I86_0 c92)
                  have z116a : ((sF (aI (G.2.1 (F a 10)) (10 * aI (G79.2.1 (F a 17)) (l4_86.toInt) + 0))) = 0 ∨ (sF (aI (G.2.1 (F a 10)) (10 * aI (G79.2.1 (F a 17)) (l4_86.toInt) + 0))) = -99) ∧ ((sL (aI (G.2.1 (F a 10)) (10 * aI (G79.2.1 (F a 17)) (l4_86.toInt) + 0))) = 29 ∨ (sL (aI (G.2.1 (F a 10)) (10 * aI (G79.2.1 (F a 17)) (l4_86.toInt) + 0))) = 99) := sFLb _
                  have z116b : (aI (G79.2.1 (F a 17)) (l4_86.toInt)) = p0.toInt → (sF (aI (G.2.1 (F a 10)) (10 * aI (G79.2.1 (F a 17)) (l4_86.toInt) + 0))) = (sF (aI (G.2.1 (F a 10)) (10 * p0.toInt + 0))) ∧ (sL (aI (G.2.1 (F a 10)) (10 * aI (G79.2.1 (F a 17)) (l4_86.toInt) + 0))) = (sL (aI (G.2.1 (F a 10)) (10 * p0.toInt + 0))) := fun h9 => by rw [h9]; exact ⟨rfl, rfl⟩
                  refine lv_aload_n hx hb dX11_later_116 rfl (lv_at hl 0 rfl) ?_
                  refine lv_iload_n hx hb dX11_later_117 rfl (lv_at hl 1 rfl) ?_
                  refine lv_aload_n hx hb dX11_later_118 rfl (lv_at hl 0 rfl) ?_
                  refine gX11_18 S hK hT ha kf_X11_54 dX11_later_119 (fun _ _ => ?_)
                  refine lv_iload hx hb dX11_later_122 (lv_at hl 3 rfl) ?_
                  refine al_0 S hK hT hk9999b ar_44 (by decide) (z_X11_later_7 l4_86.toInt x79.toInt ((G79.1 a 19).toInt) t79 I86_0) dX11_later_124 (fun x124 hv124 o124 => ?_)
                  have hv124 : x124.toInt = (aI (G79.2.1 (F a 18)) (l4_86.toInt)) := hv124.trans (by rw [(rfl : Int32.toInt l4_86 = l4_86.toInt), (((lc_c hG115 (xne_k hk9999b hk9999h (by decide))).trans (hF_86.2.1 _ (xn1 (xne_k hk9999b hk9999h (by decide)) xn0))) : G115.2.1 (F a 18) = G79.2.1 (F a 18))])
                  refine lv_aload_n hx hb dX11_later_125 rfl (lv_at hl 0 rfl) ?_
                  refine gX11_1 S hK hT ha kf_X11_9 dX11_later_126 (fun _ _ => ?_)
                  refine lv_iconst (v := 0) hx hb dX11_later_129 (by decide) ?_
                  refine x_clp (x_runV (b := a) (As := [.int p0, .int x124, .ref (F a 1), .int 0]) (rest := []) S (c_X11_fails l E K F G115 H a p0 x124 (F a 1) 0 ha (XO.a hk9999i (by decide)) (z_X11_later_14 p0.toInt (aI (G79.2.1 (F a 17)) (l4_86.toInt)) c103 (z116).1) (by rw [(show G115.2.1 (F a 10) = G.2.1 (F a 10) from ((lc_c hG115 (xne_k hk9999f hk9999h (by decide))).trans ((hF_86.2.1 _ (xn1 (xne_k hk9999f hk9999h (by decide)) xn0)).trans ((hF79.2.1 _ (xn1 (xne_k hk9999f hk9999 (by decide)) (xn1 (xne_k hk9999f hk9999a (by decide)) (xn1 (xne_k hk9999f hk9999b (by decide)) (xn1 (xne_k hk9999f hk9999c (by decide)) (xn1 (xne_k hk9999f hk9999d (by decide)) xn0)))))).trans ((hF6.2.1 _ xn0).trans (ld_c hG2))))))] <;> exact (z_X11_later_15 p0.toInt x11.toInt (aI (G.2.1 (F a 10)) (10 * p0.toInt + 0)) t11 c14)) (by rw [(hv124 : Int32.toInt x124 = (aI (G79.2.1 (F a 18)) (l4_86.toInt))), (show G115.2.1 (F a 10) = G.2.1 (F a 10) from ((lc_c hG115 (xne_k hk9999f hk9999h (by decide))).trans ((hF_86.2.1 _ (xn1 (xne_k hk9999f hk9999h (by decide)) xn0)).trans ((hF79.2.1 _ (xn1 (xne_k hk9999f hk9999 (by decide)) (xn1 (xne_k hk9999f hk9999a (by decide)) (xn1 (xne_k hk9999f hk9999b (by decide)) (xn1 (xne_k hk9999f hk9999c (by decide)) (xn1 (xne_k hk9999f hk9999d (by decide)) xn0)))))).trans ((hF6.2.1 _ xn0).trans (ld_c hG2))))))] <;> exact (z_X11_later_16 p0.toInt (aI (G79.2.1 (F a 17)) (l4_86.toInt)) (aI (G79.2.1 (F a 18)) (l4_86.toInt)) (sF (aI (G.2.1 (F a 10)) (10 * aI (G79.2.1 (F a 17)) (l4_86.toInt) + 0))) (sF (aI (G.2.1 (F a 10)) (10 * p0.toInt + 0))) (sL (aI (G.2.1 (F a 10)) (10 * aI (G79.2.1 (F a 17)) (l4_86.toInt) + 0))) (sL (aI (G.2.1 (F a 10)) (10 * p0.toInt + 0))) c103 (z116).2.2 z116b)) (v_X11_later_130_8 (F := F) a G G115 hR ((lc_c hG115 (xne_k hk9999f hk9999h (by decide))).trans ((hF_86.2.1 _ (xn1 (xne_k hk9999f hk9999h (by decide)) xn0)).trans ((hF79.2.1 _ (xn1 (xne_k hk9999f hk9999 (by decide)) (xn1 (xne_k hk9999f hk9999a (by decide)) (xn1 (xne_k hk9999f hk9999b (by decide)) (xn1 (xne_k hk9999f hk9999c (by decide)) (xn1 (xne_k hk9999f hk9999d (by decide)) xn0)))))).trans ((hF6.2.1 _ xn0).trans (ld_c hG2)))))) (v_X11_later_130_9 (F := F) a G G115 hM hB ((lc_c hG115 (xne_k hk9999i hk9999h (by decide))).trans ((hF_86.2.1 _ (xn1 (xne_k hk9999i hk9999h (by decide)) xn0)).trans ((hF79.2.1 _ (xn1 (xne_k hk9999i hk9999 (by decide)) (xn1 (xne_k hk9999i hk9999a (by decide)) (xn1 (xne_k hk9999i hk9999b (by decide)) (xn1 (xne_k hk9999i hk9999c (by decide)) (xn1 (xne_k hk9999i hk9999d (by decide)) xn0)))))).trans ((hF6.2.1 _ xn0).trans (ld_c hG2))))))) mv_X11_fails km_X11_221 rfl rfl ⟨Nat.le_of_ble_eq_true rfl, Nat.le_of_ble_eq_true rfl⟩ (rc_13 hK hT ha) hK (fun _ => XPh.blind) (fun U hU hW => XPh.at hK hz hS hT hU hW) rfl hl.1 (Nat.le_of_ble_eq_true rfl) dX11_later_130 ⟨Nat.le_of_ble_eq_true rfl, Nat.le_of_ble_eq_true rfl⟩) hS ?_
                  rintro _ _ locs ⟨x130, rfl, b130, t130⟩ hS
                  have t130 : x130.toInt = (flq (mw (G.2.1 (F a 1)) 0) (aI (G.2.1 (F a 10)) (10 * p0.toInt + 0)) (aI (G.2.1 (F a 10)) (10 * p0.toInt + 1)) (aI (G.2.1 (F a 10)) (10 * p0.toInt + 2)) (aI (G.2.1 (F a 10)) (10 * p0.toInt + 4)) (aI (G.2.1 (F a 10)) (10 * p0.toInt + 5)) (aI (G79.2.1 (F a 18)) (l4_86.toInt)) (stt (mw (G.2.1 (F a 1)) 0) (aI (G.2.1 (F a 10)) (10 * p0.toInt + 0)) (aI (G.2.1 (F a 10)) (10 * p0.toInt + 1)) (aI (G.2.1 (F a 10)) (10 * p0.toInt + 2)) (aI (G.2.1 (F a 10)) (10 * p0.toInt + 3)) (aI (G79.2.1 (F a 18)) (l4_86.toInt)))) := by rw [(hv124 : Int32.toInt x124 = (aI (G79.2.1 (F a 18)) (l4_86.toInt)))] at t130; rw [(show G115.2.1 (F a 1) = G.2.1 (F a 1) from ((lc_c hG115 (xne_k hk9999i hk9999h (by decide))).trans ((hF_86.2.1 _ (xn1 (xne_k hk9999i hk9999h (by decide)) xn0)).trans ((hF79.2.1 _ (xn1 (xne_k hk9999i hk9999 (by decide)) (xn1 (xne_k hk9999i hk9999a (by decide)) (xn1 (xne_k hk9999i hk9999b (by decide)) (xn1 (xne_k hk9999i hk9999c (by decide)) (xn1 (xne_k hk9999i hk9999d (by decide)) xn0)))))).trans ((hF6.2.1 _ xn0).trans (ld_c hG2))))))] at t130; rw [(show G115.2.1 (F a 10) = G.2.1 (F a 10) from ((lc_c hG115 (xne_k hk9999f hk9999h (by decide))).trans ((hF_86.2.1 _ (xn1 (xne_k hk9999f hk9999h (by decide)) xn0)).trans ((hF79.2.1 _ (xn1 (xne_k hk9999f hk9999 (by decide)) (xn1 (xne_k hk9999f hk9999a (by decide)) (xn1 (xne_k hk9999f hk9999b (by decide)) (xn1 (xne_k hk9999f hk9999c (by decide)) (xn1 (xne_k hk9999f hk9999d (by decide)) xn0)))))).trans ((hF6.2.1 _ xn0).trans (ld_c hG2))))))] at t130; exact t130
                  refine xi_zeq (tgt := 151) hx hb (rfl : Int32.toInt x130 = x130.toInt) dX11_later_133 (by decide) (fun c133 => ?_) (fun c133 => ?_)
                  · refine xi_iinc (n := 1) (lv' := fun z9 => [(4, .int z9), (0, .ref a), (1, .int p0), (3, .int x79)]) (k := 3) hx hb (rfl : Int32.toInt l4_86 = l4_86.toInt) (by decide) dX11_later_151 hl rfl (by decide) (fun _ => rfl) (fun x151 ls t151 hl => ?_)
                    have e151 : x151.toInt = (l4_86.toInt + 1) := (z_X11_later_8 l4_86.toInt x151.toInt x79.toInt ((G79.1 a 19).toInt) t79 I86_0 t151)
                    have hl : lv_has ls 5 [(4, .int x151), (0, .ref a), (1, .int p0), (3, .int x79)] := hl
                    refine lv_goto (tgt := 86) hx hb dX11_later_154 (by decide) ?_
                    exact ih86 x151 G115 _ _ _ (by rw [hG115]; exact XFr.cput (XFr.call XFr.rf hF_86 xm0 (xm1 0 rfl xm0) xm0) (List.mem_of_getElem? (i := 0) rfl)) (by rw [(e151 : Int32.toInt x151 = (l4_86.toInt + 1))] <;> exact (v_X11_later_154_10 (K := K) (F := F) a G G6 G79 p0 x79 l4_86 p1 x11 N86 x130 ha oq79a pl z0 t6 t11 c14 c28 c36 t79 I86_0 I86_1 hm86 c92 c103 z116 z116a z116b t130 (xzi b130) c133)) (by rw [(e151 : Int32.toInt x151 = (l4_86.toInt + 1))] <;> exact (z_X11_later_9 l4_86.toInt ((G79.1 a 19).toInt) I86_0 c92)) (by rw [(e151 : Int32.toInt x151 = (l4_86.toInt + 1))] <;> exact (z_X11_later_10 l4_86.toInt ((G79.1 a 19).toInt) I86_0)) (by rw [(e151 : Int32.toInt x151 = (l4_86.toInt + 1))] <;> exact (z_X11_later_11 l4_86.toInt N86 hm86)) hT hS (lv_sub hl [1, 2, 3, 0] rfl)
                  · refine lv_aload_n hx hb dX11_later_136 rfl (lv_at hl 0 rfl) ?_
                    refine lv_iload_n hx hb dX11_later_137 rfl (lv_at hl 1 rfl) ?_
                    refine lv_aload_n hx hb dX11_later_138 rfl (lv_at hl 0 rfl) ?_
                    refine gX11_18 S hK hT ha kf_X11_54 dX11_later_139 (fun _ _ => ?_)
                    refine lv_iload hx hb dX11_later_142 (lv_at hl 3 rfl) ?_
                    refine al_0 S hK hT hk9999b ar_44 (by decide) (z_X11_later_7 l4_86.toInt x79.toInt ((G79.1 a 19).toInt) t79 I86_0) dX11_later_144 (fun x144 hv144 o144 => ?_)
                    have hv144 : x144.toInt = (aI (G79.2.1 (F a 18)) (l4_86.toInt)) := hv144.trans (by rw [(rfl : Int32.toInt l4_86 = l4_86.toInt), (((lc_c hG115 (xne_k hk9999b hk9999h (by decide))).trans (hF_86.2.1 _ (xn1 (xne_k hk9999b hk9999h (by decide)) xn0))) : G115.2.1 (F a 18) = G79.2.1 (F a 18))])
                    refine x_cv0 (x_runV (b := a) (As := [.int p0, .int x144]) (rest := []) S (c_X11_failed l E K F G115 a p0 x144 ha (z_X11_later_14 p0.toInt (aI (G79.2.1 (F a 17)) (l4_86.toInt)) c103 (z116).1) (by rw [(hv144 : Int32.toInt x144 = (aI (G79.2.1 (F a 18)) (l4_86.toInt)))] <;> exact (z_X11_later_23 (aI (G79.2.1 (F a 18)) (l4_86.toInt)) (sF (aI (G.2.1 (F a 10)) (10 * aI (G79.2.1 (F a 17)) (l4_86.toInt) + 0))) (sL (aI (G.2.1 (F a 10)) (10 * aI (G79.2.1 (F a 17)) (l4_86.toInt) + 0))) (z116).2.2 (z116a).1 (z116a).2))) mv_X11_failed km_X11_299 rfl rfl ⟨Nat.le_of_ble_eq_true rfl, Nat.le_of_ble_eq_true rfl⟩ (rc_13 hK hT ha) hK (fun _ => XP.blind) (fun U hU hW => XP.at hK hz hS hT hU hW) rfl hl.1 (Nat.le_of_ble_eq_true rfl) dX11_later_145 ⟨Nat.le_of_ble_eq_true rfl, Nat.le_of_ble_eq_true rfl⟩) hS ?_
                    rintro G145 H locs ⟨hF145, t145⟩ hT hS
                    have t145 : ((G145.1 a 20).toInt) = p0.toInt ∧ ((G145.1 a 21).toInt) = (aI (G79.2.1 (F a 18)) (l4_86.toInt)) ∧ 0 ≤ ((G145.1 a 23).toInt) ∧ ((G145.1 a 23).toInt) ≤ 24 := by rw [(hv144 : Int32.toInt x144 = (aI (G79.2.1 (F a 18)) (l4_86.toInt)))] at t145; exact t145
                    refine lv_bipush (v := (-5)) hx hb dX11_later_148 (by decide) ?_
                    exact x_ri hx hb hr hlk hQ (Nat.le_of_ble_eq_true rfl) (Nat.le_of_ble_eq_true rfl) hS dX11_later_150 G145 ⟨_, rfl, (XFr.call (by rw [hG115]; exact XFr.cput (XFr.call (XFr.call (XFr.call (by rw [hG2]; exact XFr.dput XFr.rf (List.mem_of_getElem? (i := 5) rfl)) hF6 (xm1 2 rfl (xm1 3 rfl (xm1 4 rfl xm0))) xm0 xm0) hF79 (xm1 0 rfl (xm1 1 rfl xm0)) (xm1 0 rfl (xm1 1 rfl (xm1 2 rfl (xm1 3 rfl (xm1 4 rfl xm0))))) xm0) hF_86 xm0 (xm1 8 rfl xm0) xm0) (List.mem_of_getElem? (i := 8) rfl)) hF145 (xm1 2 rfl (xm1 3 rfl (xm1 4 rfl xm0))) (xm1 5 rfl xm0) xm0), (z_X11_later_24 p0.toInt ((G145.1 a 20).toInt) ((G145.1 a 21).toInt) ((G145.1 a 23).toInt) (aI (G79.2.1 (F a 18)) (l4_86.toInt)) t145), (by rw [((by decide) : Int32.toInt (-5) = (-5 : Int))] <;> exact (v_X11_later_150_11 (K := K) (F := F) a G G6 G79 G145 p0 x79 l4_86 p1 x11 N86 x130 ha oq79 oq79a z0 t6 t11 c14 c28 c36 t79 I86_0 I86_1 hm86 c92 c103 z116 z116a z116b t130 (xzi b130) c133 t145 ((hF145.2.1 _ (xn1 (xne_k hk9999f hk9999e (by decide)) xn0)).trans ((lc_c hG115 (xne_k hk9999f hk9999h (by decide))).trans ((hF_86.2.1 _ (xn1 (xne_k hk9999f hk9999h (by decide)) xn0)).trans ((hF79.2.1 _ (xn1 (xne_k hk9999f hk9999 (by decide)) (xn1 (xne_k hk9999f hk9999a (by decide)) (xn1 (xne_k hk9999f hk9999b (by decide)) (xn1 (xne_k hk9999f hk9999c (by decide)) (xn1 (xne_k hk9999f hk9999d (by decide)) xn0)))))).trans ((hF6.2.1 _ xn0).trans (ld_c hG2)))))))), (v_X11_later_150_12 (F := F) a G G145 hR ((hF145.2.1 _ (xn1 (xne_k hk9999f hk9999e (by decide)) xn0)).trans ((lc_c hG115 (xne_k hk9999f hk9999h (by decide))).trans ((hF_86.2.1 _ (xn1 (xne_k hk9999f hk9999h (by decide)) xn0)).trans ((hF79.2.1 _ (xn1 (xne_k hk9999f hk9999 (by decide)) (xn1 (xne_k hk9999f hk9999a (by decide)) (xn1 (xne_k hk9999f hk9999b (by decide)) (xn1 (xne_k hk9999f hk9999c (by decide)) (xn1 (xne_k hk9999f hk9999d (by decide)) xn0)))))).trans ((hF6.2.1 _ xn0).trans (ld_c hG2)))))))⟩ hT
          exact L86 4294967297 0 G79 _ _ _ XFr.rf (v_X11_later_84_13 (K := K) (F := F) a G G6 G79 p0 x79 p1 x11 ha oq79a z0 t6 t11 c14 c28 c36 t79) (z_X11_later_25 x79.toInt ((G79.1 a 19).toInt) t79) (by decide) (by decide) hT hS (lv_sub hl [2, 3, 1, 0] rfl)
        · refine lv_aload_n hx hb dX11_later_46 rfl (lv_at hl 0 rfl) ?_
          refine gX11_10 S hK hT ha kf_X11_33 dX11_later_47 (fun _ _ => ?_)
          refine lv_bipush (v := 10) hx hb dX11_later_50 (by decide) ?_
          refine lv_iload_n hx hb dX11_later_52 rfl (lv_at hl 1 rfl) ?_
          refine xi_imul hx hb ((by decide) : Int32.toInt 10 = (10 : Int)) (rfl : Int32.toInt p0 = p0.toInt) dX11_later_53 (fun x53 t53 => ?_)
          have e53 : x53.toInt = ((10 : Int) * p0.toInt) := (z_X11_later_3 p0.toInt x11.toInt x53.toInt (aI (G.2.1 (F a 10)) (10 * p0.toInt + 0)) t11 c14 t53)
          refine lv_bipush (v := 6) hx hb dX11_later_54 (by decide) ?_
          refine xi_iadd hx hb (e53 : Int32.toInt x53 = ((10 : Int) * p0.toInt)) ((by decide) : Int32.toInt 6 = (6 : Int)) dX11_later_56 (fun x56 t56 => ?_)
          have e56 : x56.toInt = (((10 : Int) * p0.toInt) + (6 : Int)) := (z_X11_later_4 p0.toInt x11.toInt x56.toInt (aI (G.2.1 (F a 10)) (10 * p0.toInt + 0)) t11 c14 t56)
          refine lv_iconst (v := 1) hx hb dX11_later_57 (by decide) ?_
          refine as_0 (x := 1) S hK hT hS hk9999f ar_37 aw_37 (by decide) (by rw [(e56 : Int32.toInt x56 = (((10 : Int) * p0.toInt) + (6 : Int)))]; exact (z_X11_later_5 p0.toInt x11.toInt (aI (G.2.1 (F a 10)) (10 * p0.toInt + 0)) t11 c14)) dX11_later_58 (fun H locs hT hS => ?_)
          obtain ⟨G58, hG58⟩ : ∃ GG : XG, GG = cput G6 (F a 10) x56.toNatClampNeg 1 := ⟨_, rfl⟩
          rw [← hG58] at hT
          refine lv_aload_n hx hb dX11_later_59 rfl (lv_at hl 0 rfl) ?_
          refine lv_iload_n hx hb dX11_later_60 rfl (lv_at hl 1 rfl) ?_
          refine x_cl0 (x_runV (b := a) (As := [.int p0]) (rest := []) S (c_X11_inQueue l E K F G58 a p0 ha (v_X11_later_61_14 (K := K) (F := F) a G G6 G58 x56 p0 p1 x11 ha hG58 hR e56 z0 t6 t11 c14 c28 c36 c43 ((hF6.2.1 _ xn0).trans (ld_c hG2))) (v_X11_later_61_15 (F := F) a G G58 hM hB ((lc_c hG58 (xne_k hk9999i hk9999f (by decide))).trans ((hF6.2.1 _ xn0).trans (ld_c hG2)))) (v_X11_later_61_16 (F := F) a G G58 hM hB ((lc_c hG58 (xne_k hk9999j hk9999f (by decide))).trans ((hF6.2.1 _ xn0).trans (ld_c hG2))))) mv_X11_inQueue km_X11_306 rfl rfl ⟨Nat.le_of_ble_eq_true rfl, Nat.le_of_ble_eq_true rfl⟩ (rc_13 hK hT ha) hK (fun _ => XP.blind) (fun U hU hW => XP.at hK hz hS hT hU hW) rfl hl.1 (Nat.le_of_ble_eq_true rfl) dX11_later_61 ⟨Nat.le_of_ble_eq_true rfl, Nat.le_of_ble_eq_true rfl⟩) hS ?_
          rintro _ G61 H locs ⟨x61, rfl, hF61, t61, oq61, oq61a⟩ hT hS
          have t61 : 0 ≤ x61.toInt ∧ x61.toInt ≤ 2388 ∧ 0 ≤ ((G61.1 a 19).toInt) ∧ ((G61.1 a 19).toInt) ≤ 2388 := t61
          have oq61 : pL G61 F a = if ((G.1 a 6).toInt) = 0 then [] else fuO (G58.2.1 (F a 10)) (mw (G.2.1 (F a 1)) 0) (mw (G.2.1 (F a 2)) 0) 1 := by simp only [(show G58.1 a 6 = G.1 a 6 from ((lc_d hG58).trans ((hF6.1 _ _ (xnj (by decide) (xnj (by decide) (xnj (by decide) xn0)))).trans (ld_j hG2 (by decide))))), (show G58.2.1 (F a 1) = G.2.1 (F a 1) from ((lc_c hG58 (xne_k hk9999i hk9999f (by decide))).trans ((hF6.2.1 _ xn0).trans (ld_c hG2)))), (show G58.2.1 (F a 2) = G.2.1 (F a 2) from ((lc_c hG58 (xne_k hk9999j hk9999f (by decide))).trans ((hF6.2.1 _ xn0).trans (ld_c hG2))))] at oq61; exact oq61
          refine lv_istore_n (lv' := [(3, .int x61), (0, .ref a), (1, .int p0), (2, .int p1)]) hx hb dX11_later_64 rfl hl (by decide) rfl (fun ls hl => ?_)
          refine lv_aload_n hx hb dX11_later_65 rfl (lv_at hl 1 rfl) ?_
          refine gX11_8 S hK hT ha kf_X11_27 dX11_later_66 (fun _ _ => ?_)
          refine lv_iconst (v := 0) hx hb dX11_later_69 (by decide) ?_
          refine lv_dup2_11 hx hb dX11_later_70 rfl rfl ?_
          refine al_0 S hK hT hk9999g ar_35 (by decide) (by decide) dX11_later_71 (fun x71 hv71 o71 => ?_)
          have hv71 : x71.toInt = (aI (G.2.1 (F a 8)) 0) := hv71.trans (by rw [((by decide) : Int32.toInt 0 = (0 : Int)), (((hF61.2.1 _ (xn1 (xne_k hk9999g hk9999 (by decide)) (xn1 (xne_k hk9999g hk9999a (by decide)) (xn1 (xne_k hk9999g hk9999b (by decide)) (xn1 (xne_k hk9999g hk9999c (by decide)) (xn1 (xne_k hk9999g hk9999d (by decide)) xn0)))))).trans ((lc_c hG58 (xne_k hk9999g hk9999f (by decide))).trans ((hF6.2.1 _ xn0).trans (ld_c hG2)))) : G61.2.1 (F a 8) = G.2.1 (F a 8))])
          refine lv_iload_n hx hb dX11_later_72 rfl (lv_at hl 0 rfl) ?_
          refine xi_iadd hx hb (hv71 : Int32.toInt x71 = (aI (G.2.1 (F a 8)) 0)) (rfl : Int32.toInt x61 = x61.toInt) dX11_later_73 (fun x73 t73 => ?_)
          refine as_0 (x := x73) S hK hT hS hk9999g ar_35 aw_35 (by decide) (by decide) dX11_later_74 (fun H locs hT hS => ?_)
          obtain ⟨G74, hG74⟩ : ∃ GG : XG, GG = cput G61 (F a 8) (0 : Int32).toNatClampNeg x73 := ⟨_, rfl⟩
          rw [← hG74] at hT
          refine lv_iload_n hx hb dX11_later_75 rfl (lv_at hl 0 rfl) ?_
          exact x_ri hx hb hr hlk hQ (Nat.le_of_ble_eq_true rfl) (Nat.le_of_ble_eq_true rfl) hS dX11_later_76 G74 ⟨_, rfl, (by rw [hG74]; exact XFr.cput (XFr.call (by rw [hG58]; exact XFr.cput (XFr.call (by rw [hG2]; exact XFr.dput XFr.rf (List.mem_of_getElem? (i := 5) rfl)) hF6 (xm1 2 rfl (xm1 3 rfl (xm1 4 rfl xm0))) xm0 xm0) (List.mem_of_getElem? (i := 6) rfl)) hF61 (xm1 0 rfl (xm1 1 rfl xm0)) (xm1 0 rfl (xm1 1 rfl (xm1 2 rfl (xm1 3 rfl (xm1 4 rfl xm0))))) xm0) (List.mem_of_getElem? (i := 7) rfl)), (by rw [(show (G74.1 a 23).toInt = ((G6.1 a 23).toInt) from (congrArg Int32.toInt ((lc_d hG74).trans ((hF61.1 _ _ (xnj (by decide) (xnj (by decide) xn0))).trans (lc_d hG58)))).trans (rfl : Int32.toInt (G6.1 a 23) = ((G6.1 a 23).toInt)))] <;> exact (z_X11_later_6 ((G6.1 a 20).toInt) ((G6.1 a 21).toInt) ((G6.1 a 23).toInt) t6)), (v_X11_later_76_17 (K := K) (F := F) a G G6 G58 x56 G61 G74 p0 x61 p1 x11 ha hG58 e56 oq61 oq61a z0 t6 t11 c14 c28 c36 c43 t61 ((hF6.2.1 _ xn0).trans (ld_c hG2)) ((lc_c hG74 (xne_k hk9999f hk9999g (by decide))).trans (hF61.2.1 _ (xn1 (xne_k hk9999f hk9999 (by decide)) (xn1 (xne_k hk9999f hk9999a (by decide)) (xn1 (xne_k hk9999f hk9999b (by decide)) (xn1 (xne_k hk9999f hk9999c (by decide)) (xn1 (xne_k hk9999f hk9999d (by decide)) xn0)))))))), (v_X11_later_76_18 (K := K) (F := F) a G G6 G58 x56 G61 G74 p0 x61 p1 x11 ha hG58 hR e56 oq61a z0 t6 t11 c14 c28 c36 c43 t61 ((hF6.2.1 _ xn0).trans (ld_c hG2)) ((lc_c hG74 (xne_k hk9999f hk9999g (by decide))).trans (hF61.2.1 _ (xn1 (xne_k hk9999f hk9999 (by decide)) (xn1 (xne_k hk9999f hk9999a (by decide)) (xn1 (xne_k hk9999f hk9999b (by decide)) (xn1 (xne_k hk9999f hk9999c (by decide)) (xn1 (xne_k hk9999f hk9999d (by decide)) xn0))))))))⟩ hT
      · refine lv_bipush (v := (-4)) hx hb dX11_later_39 (by decide) ?_
        exact x_ri hx hb hr hlk hQ (Nat.le_of_ble_eq_true rfl) (Nat.le_of_ble_eq_true rfl) hS dX11_later_41 G6 ⟨_, rfl, (XFr.call (by rw [hG2]; exact XFr.dput XFr.rf (List.mem_of_getElem? (i := 5) rfl)) hF6 (xm1 2 rfl (xm1 3 rfl (xm1 4 rfl xm0))) xm0 xm0), (z_X11_later_6 ((G6.1 a 20).toInt) ((G6.1 a 21).toInt) ((G6.1 a 23).toInt) t6), (by rw [((by decide) : Int32.toInt (-4) = (-4 : Int))] <;> exact (v_X11_later_41_19 (K := K) (F := F) a G G6 p0 p1 x11 ha z0 t6 t11 c14 c28 c36 ((hF6.2.1 _ xn0).trans (ld_c hG2)))), (v_X11_later_41_20 (F := F) a G G6 hR ((hF6.2.1 _ xn0).trans (ld_c hG2)))⟩ hT
    · refine lv_iconst (v := 1) hx hb dX11_later_31 (by decide) ?_
      refine lv_goto (tgt := 36) hx hb dX11_later_32 (by decide) ?_
      refine xi_cne (tgt := 42) hx hb (t24 : Int32.toInt x24 = (aI (G.2.1 (F a 10)) (10 * p0.toInt + 6))) ((by decide) : Int32.toInt 1 = (1 : Int)) dX11_later_36 (by decide) (fun c36 => ?_) (fun c36 => ?_)
      · refine lv_iload_n hx hb dX11_later_42 rfl (lv_at hl 2 rfl) ?_
        refine xi_zeq (tgt := 77) hx hb (rfl : Int32.toInt p1 = p1.toInt) dX11_later_43 (by decide) (fun c43 => ?_) (fun c43 => ?_)
        · refine lv_aload_n hx hb dX11_later_77 rfl (lv_at hl 0 rfl) ?_
          refine lv_iload_n hx hb dX11_later_78 rfl (lv_at hl 1 rfl) ?_
          refine x_cl0 (x_runV (b := a) (As := [.int p0]) (rest := []) S (c_X11_inQueue l E K F G6 a p0 ha (v_X11_later_79_21 (F := F) a G G6 hR ((hF6.2.1 _ xn0).trans (ld_c hG2))) (v_X11_later_79_22 (F := F) a G G6 hM hB ((hF6.2.1 _ xn0).trans (ld_c hG2))) (v_X11_later_79_23 (F := F) a G G6 hM hB ((hF6.2.1 _ xn0).trans (ld_c hG2)))) mv_X11_inQueue km_X11_306 rfl rfl ⟨Nat.le_of_ble_eq_true rfl, Nat.le_of_ble_eq_true rfl⟩ (rc_13 hK hT ha) hK (fun _ => XP.blind) (fun U hU hW => XP.at hK hz hS hT hU hW) rfl hl.1 (Nat.le_of_ble_eq_true rfl) dX11_later_79 ⟨Nat.le_of_ble_eq_true rfl, Nat.le_of_ble_eq_true rfl⟩) hS ?_
          rintro _ G79 H locs ⟨x79, rfl, hF79, t79, oq79, oq79a⟩ hT hS
          have t79 : 0 ≤ x79.toInt ∧ x79.toInt ≤ 2388 ∧ 0 ≤ ((G79.1 a 19).toInt) ∧ ((G79.1 a 19).toInt) ≤ 2388 := t79
          have oq79 : pL G79 F a = if ((G.1 a 6).toInt) = 0 then [] else fuO (G.2.1 (F a 10)) (mw (G.2.1 (F a 1)) 0) (mw (G.2.1 (F a 2)) 0) 1 := by simp only [(show G6.1 a 6 = G.1 a 6 from ((hF6.1 _ _ (xnj (by decide) (xnj (by decide) (xnj (by decide) xn0)))).trans (ld_j hG2 (by decide)))), (show G6.2.1 (F a 10) = G.2.1 (F a 10) from ((hF6.2.1 _ xn0).trans (ld_c hG2))), (show G6.2.1 (F a 1) = G.2.1 (F a 1) from ((hF6.2.1 _ xn0).trans (ld_c hG2))), (show G6.2.1 (F a 2) = G.2.1 (F a 2) from ((hF6.2.1 _ xn0).trans (ld_c hG2)))] at oq79; exact oq79
          have hv79 : PV (G.2.1 (F a 10)) (pL G79 F a) := (v_X11_later_82_24 (F := F) a G G79 oq79)
          refine lv_istore_n (lv' := [(3, .int x79), (0, .ref a), (1, .int p0), (2, .int p1)]) hx hb dX11_later_82 rfl hl (by decide) rfl (fun ls hl => ?_)
          refine lv_iconst (v := 0) hx hb dX11_later_83 (by decide) ?_
          refine lv_istore (lv' := [(4, .int 0), (3, .int x79), (0, .ref a), (1, .int p0), (2, .int p1)]) hx hb dX11_later_84 hl (by decide) rfl (fun ls hl => ?_)
          have L86 : ∀ (N86 : Nat) (l4_86 : Int32) (G_86 : XG) (H : Heap) (locs : List Loc) (ls : Array Slot), XFr [] [F a 9] [] G79 G_86 → (∀ j : Int, 0 ≤ j → j < l4_86.toInt → aI (G79.2.1 (F a 17)) j = p0.toInt → fzq (G.2.1 (F a 10)) (mw (G.2.1 (F a 1)) 0) (aI (G79.2.1 (F a 17)) j) (aI (G79.2.1 (F a 18)) j) = 0) → 0 ≤ l4_86.toInt ∧ l4_86.toInt ≤ ((G79.1 a 19).toInt) → (0 : Int) ≤ l4_86.toInt → 2147483648 - l4_86.toInt < ((N86 : Nat) : Int) → TW E K F G_86 H → va_S (xA E) s.heap H locs → lv_has ls 5 [(0, .ref a), (1, .int p0), (3, .int x79), (4, .int l4_86)] → W p l e rm_X11_later s m args below meth c H locs 0 0 Q (F0 m 86 ls []) := by
            intro N86
            induction N86 with
            | zero =>
              intro l4_86 G_86 H locs ls hF_86 pl I86_0 I86_1 hm86
              exact absurd hm86 (z_X11_later_2 l4_86.toInt (xr l4_86))
            | succ N86 ih86 =>
              intro l4_86 G_86 H locs ls hF_86 pl I86_0 I86_1 hm86 hT hS hl
              refine lv_iload hx hb dX11_later_86 (lv_at hl 3 rfl) ?_
              refine lv_aload_n hx hb dX11_later_88 rfl (lv_at hl 0 rfl) ?_
              refine gX11_19 S hK hT ha kf_X11_203 dX11_later_89 (v := (G79.1 a 19)) (hF_86.1 _ _ xn0) (?_)
              refine xi_cge (tgt := 157) hx hb (rfl : Int32.toInt l4_86 = l4_86.toInt) (rfl : Int32.toInt (G79.1 a 19) = ((G79.1 a 19).toInt)) dX11_later_92 (by decide) (fun c92 => ?_) (fun c92 => ?_)
              · refine lv_aload_n hx hb dX11_later_157 rfl (lv_at hl 0 rfl) ?_
                refine gX11_10 S hK hT ha kf_X11_33 dX11_later_158 (fun _ _ => ?_)
                refine lv_bipush (v := 10) hx hb dX11_later_161 (by decide) ?_
                refine lv_iload_n hx hb dX11_later_163 rfl (lv_at hl 1 rfl) ?_
                refine xi_imul hx hb ((by decide) : Int32.toInt 10 = (10 : Int)) (rfl : Int32.toInt p0 = p0.toInt) dX11_later_164 (fun x164 t164 => ?_)
                have e164 : x164.toInt = ((10 : Int) * p0.toInt) := (z_X11_later_3 p0.toInt x11.toInt x164.toInt (aI (G.2.1 (F a 10)) (10 * p0.toInt + 0)) t11 c14 t164)
                refine lv_bipush (v := 6) hx hb dX11_later_165 (by decide) ?_
                refine xi_iadd hx hb (e164 : Int32.toInt x164 = ((10 : Int) * p0.toInt)) ((by decide) : Int32.toInt 6 = (6 : Int)) dX11_later_167 (fun x167 t167 => ?_)
                have e167 : x167.toInt = (((10 : Int) * p0.toInt) + (6 : Int)) := (z_X11_later_4 p0.toInt x11.toInt x167.toInt (aI (G.2.1 (F a 10)) (10 * p0.toInt + 0)) t11 c14 t167)
                refine lv_iconst (v := 0) hx hb dX11_later_168 (by decide) ?_
                refine as_0 (x := 0) S hK hT hS hk9999f ar_37 aw_37 (by decide) (by rw [(e167 : Int32.toInt x167 = (((10 : Int) * p0.toInt) + (6 : Int)))]; exact (z_X11_later_5 p0.toInt x11.toInt (aI (G.2.1 (F a 10)) (10 * p0.toInt + 0)) t11 c14)) dX11_later_169 (fun H locs hT hS => ?_)
                obtain ⟨G169, hG169⟩ : ∃ GG : XG, GG = cput G_86 (F a 10) x167.toNatClampNeg 0 := ⟨_, rfl⟩
                rw [← hG169] at hT
                refine lv_iload_n hx hb dX11_later_170 rfl (lv_at hl 2 rfl) ?_
                exact x_ri hx hb hr hlk hQ (Nat.le_of_ble_eq_true rfl) (Nat.le_of_ble_eq_true rfl) hS dX11_later_171 G169 ⟨_, rfl, (by rw [hG169]; exact XFr.cput (XFr.call (XFr.call (XFr.call (by rw [hG2]; exact XFr.dput XFr.rf (List.mem_of_getElem? (i := 5) rfl)) hF6 (xm1 2 rfl (xm1 3 rfl (xm1 4 rfl xm0))) xm0 xm0) hF79 (xm1 0 rfl (xm1 1 rfl xm0)) (xm1 0 rfl (xm1 1 rfl (xm1 2 rfl (xm1 3 rfl (xm1 4 rfl xm0))))) xm0) hF_86 xm0 (xm1 8 rfl xm0) xm0) (List.mem_of_getElem? (i := 6) rfl)), (by rw [(show (G169.1 a 23).toInt = ((G6.1 a 23).toInt) from (congrArg Int32.toInt ((lc_d hG169).trans ((hF_86.1 _ _ xn0).trans (hF79.1 _ _ (xnj (by decide) (xnj (by decide) xn0)))))).trans (rfl : Int32.toInt (G6.1 a 23) = ((G6.1 a 23).toInt)))] <;> exact (z_X11_later_6 ((G6.1 a 20).toInt) ((G6.1 a 21).toInt) ((G6.1 a 23).toInt) t6)), (v_X11_later_171_25 (K := K) (F := F) a G G6 G79 G_86 G169 x167 p0 x79 l4_86 p1 x11 N86 ha hG169 oq79 oq79a pl e167 z0 t6 t11 c14 c28 c36 c43 t79 I86_0 I86_1 hm86 c92 ((hF_86.2.1 _ (xn1 (xne_k hk9999f hk9999h (by decide)) xn0)).trans ((hF79.2.1 _ (xn1 (xne_k hk9999f hk9999 (by decide)) (xn1 (xne_k hk9999f hk9999a (by decide)) (xn1 (xne_k hk9999f hk9999b (by decide)) (xn1 (xne_k hk9999f hk9999c (by decide)) (xn1 (xne_k hk9999f hk9999d (by decide)) xn0)))))).trans ((hF6.2.1 _ xn0).trans (ld_c hG2))))), (v_X11_later_171_26 (K := K) (F := F) a G G6 G79 G_86 G169 x167 p0 x79 l4_86 p1 x11 N86 ha hG169 hR oq79a e167 z0 t6 t11 c14 c28 c36 c43 t79 I86_0 I86_1 hm86 c92 ((hF_86.2.1 _ (xn1 (xne_k hk9999f hk9999h (by decide)) xn0)).trans ((hF79.2.1 _ (xn1 (xne_k hk9999f hk9999 (by decide)) (xn1 (xne_k hk9999f hk9999a (by decide)) (xn1 (xne_k hk9999f hk9999b (by decide)) (xn1 (xne_k hk9999f hk9999c (by decide)) (xn1 (xne_k hk9999f hk9999d (by decide)) xn0)))))).trans ((hF6.2.1 _ xn0).trans (ld_c hG2)))))⟩ hT
              · refine lv_aload_n hx hb dX11_later_95 rfl (lv_at hl 0 rfl) ?_
                refine gX11_17 S hK hT ha kf_X11_51 dX11_later_96 (fun _ _ => ?_)
                refine lv_iload hx hb dX11_later_99 (lv_at hl 3 rfl) ?_
                refine al_0 S hK hT hk9999a ar_43 (by decide) (z_X11_later_7 l4_86.toInt x79.toInt ((G79.1 a 19).toInt) t79 I86_0) dX11_later_101 (fun x101 hv101 o101 => ?_)
                have hv101 : x101.toInt = (aI (G79.2.1 (F a 17)) (l4_86.toInt)) := hv101.trans (by rw [(rfl : Int32.toInt l4_86 = l4_86.toInt), ((hF_86.2.1 _ (xn1 (xne_k hk9999a hk9999h (by decide)) xn0)) : G_86.2.1 (F a 17) = G79.2.1 (F a 17))])
                refine lv_iload_n hx hb dX11_later_102 rfl (lv_at hl 1 rfl) ?_
                refine xi_cne (tgt := 151) hx hb (hv101 : Int32.toInt x101 = (aI (G79.2.1 (F a 17)) (l4_86.toInt))) (rfl : Int32.toInt p0 = p0.toInt) dX11_later_103 (by decide) (fun c103 => ?_) (fun c103 => ?_)
                · refine xi_iinc (n := 1) (lv' := fun z9 => [(4, .int z9), (0, .ref a), (1, .int p0), (3, .int x79)]) (k := 3) hx hb (rfl : Int32.toInt l4_86 = l4_86.toInt) (by decide) dX11_later_151 hl rfl (by decide) (fun _ => rfl) (fun x151 ls t151 hl => ?_)
                  have e151 : x151.toInt = (l4_86.toInt + 1) := (z_X11_later_8 l4_86.toInt x151.toInt x79.toInt ((G79.1 a 19).toInt) t79 I86_0 t151)
                  have hl : lv_has ls 5 [(4, .int x151), (0, .ref a), (1, .int p0), (3, .int x79)] := hl
                  refine lv_goto (tgt := 86) hx hb dX11_later_154 (by decide) ?_
                  exact ih86 x151 G_86 _ _ _ (XFr.call XFr.rf hF_86 xm0 (xm1 0 rfl xm0) xm0) (by rw [(e151 : Int32.toInt x151 = (l4_86.toInt + 1))] <;> exact (v_X11_later_154_27 (K := K) (F := F) a G G6 G79 p0 x79 l4_86 p1 x11 N86 ha oq79a pl z0 t6 t11 c14 c28 c36 c43 t79 I86_0 I86_1 hm86 c92 c103)) (by rw [(e151 : Int32.toInt x151 = (l4_86.toInt + 1))] <;> exact (z_X11_later_9 l4_86.toInt ((G79.1 a 19).toInt) I86_0 c92)) (by rw [(e151 : Int32.toInt x151 = (l4_86.toInt + 1))] <;> exact (z_X11_later_10 l4_86.toInt ((G79.1 a 19).toInt) I86_0)) (by rw [(e151 : Int32.toInt x151 = (l4_86.toInt + 1))] <;> exact (z_X11_later_11 l4_86.toInt N86 hm86)) hT hS (lv_sub hl [1, 2, 3, 0] rfl)
                · refine lv_aload_n hx hb dX11_later_106 rfl (lv_at hl 0 rfl) ?_
                  refine gX11_9 S hK hT ha kf_X11_30 dX11_later_107 (fun _ _ => ?_)
                  refine lv_iconst (v := 0) hx hb dX11_later_110 (by decide) ?_
                  refine lv_dup2_11 hx hb dX11_later_111 rfl rfl ?_
                  refine al_0 S hK hT hk9999h ar_36 (by decide) (by decide) dX11_later_112 (fun x112 hv112 o112 => ?_)
                  have hv112 : x112.toInt = (aI (G_86.2.1 (F a 9)) 0) := hv112.trans (by rw [((by decide) : Int32.toInt 0 = (0 : Int))])
                  refine lv_iconst (v := 1) hx hb dX11_later_113 (by decide) ?_
                  refine xi_iadd hx hb (hv112 : Int32.toInt x112 = (aI (G_86.2.1 (F a 9)) 0)) ((by decide) : Int32.toInt 1 = (1 : Int)) dX11_later_114 (fun x114 t114 => ?_)
                  refine as_0 (x := x114) S hK hT hS hk9999h ar_36 aw_36 (by decide) (by decide) dX11_later_115 (fun H locs hT hS => ?_)
                  obtain ⟨G115, hG115⟩ : ∃ GG : XG, GG = cput G_86 (F a 9) (0 : Int32).toNatClampNeg x114 := ⟨_, rfl⟩
                  rw [← hG115] at hT
                  have z116 : (0 ≤ (aI (G79.2.1 (F a 17)) (l4_86.toInt)) ∧ (aI (G79.2.1 (F a 17)) (l4_86.toInt)) ≤ 11) ∧ (aI (G.2.1 (F a 10)) (10 * aI (G79.2.1 (F a 17)) (l4_86.toInt) + 0)) ≠ -1 ∧ ((sF (aI (G.2.1 (F a 10)) (10 * aI (G79.2.1 (F a 17)) (l4_86.toInt) + 0))) ≤ (aI (G79.2.1 (F a 18)) (l4_86.toInt)) ∧ (aI (G79.2.1 (F a 18)) (l4_86.toInt)) ≤ (sL (aI (G.2.1 (F a 10)) (10 * aI (G79.2.1 (F a 17)) (l4_86.toInt) + 0)))) := pv_at hv79 (z_X11_later_12 l4_86.toInt ((G79.1 a 19).toInt) I86_0 c92)
                  have z116a : ((sF (aI (G.2.1 (F a 10)) (10 * aI (G79.2.1 (F a 17)) (l4_86.toInt) + 0))) = 0 ∨ (sF (aI (G.2.1 (F a 10)) (10 * aI (G79.2.1 (F a 17)) (l4_86.toInt) + 0))) = -99) ∧ ((sL (aI (G.2.1 (F a 10)) (10 * aI (G79.2.1 (F a 17)) (l4_86.toInt) + 0))) = 29 ∨ (sL (aI (G.2.1 (F a 10)) (10 * aI (G79.2.1 (F a 17)) (l4_86.toInt) + 0))) = 99) := sFLb _
                  have z116b : (aI (G79.2.1 (F a 17)) (l4_86.toInt)) = p0.toInt → (sF (aI (G.2.1 (F a 10)) (10 * aI (G79.2.1 (F a 17)) (l4_86.toInt) + 0))) = (sF (aI (G.2.1 (F a 10)) (10 * p0.toInt + 0))) ∧ (sL (aI (G.2.1 (F a 10)) (10 * aI (G79.2.1 (F a 17)) (l4_86.toInt) + 0))) = (sL (aI (G.2.1 (F a 10)) (10 * p0.toInt + 0))) := fun h9 => by rw [h9]; exact ⟨rfl, rfl⟩
                  refine lv_aload_n hx hb dX11_later_116 rfl (lv_at hl 0 rfl) ?_
                  refine lv_iload_n hx hb dX11_later_117 rfl (lv_at hl 1 rfl) ?_
                  refine lv_aload_n hx hb dX11_later_118 rfl (lv_at hl 0 rfl) ?_
                  refine gX11_18 S hK hT ha kf_X11_54 dX11_later_119 (fun _ _ => ?_)
                  refine lv_iload hx hb dX11_later_122 (lv_at hl 3 rfl) ?_
                  refine al_0 S hK hT hk9999b ar_44 (by decide) (z_X11_later_7 l4_86.toInt x79.toInt ((G79.1 a 19).toInt) t79 I86_0) dX11_later_124 (fun x124 hv124 o124 => ?_)
                  have hv124 : x124.toInt = (aI (G79.2.1 (F a 18)) (l4_86.toInt)) := hv124.trans (by rw [(rfl : Int32.toInt l4_86 = l4_86.toInt), (((lc_c hG115 (xne_k hk9999b hk9999h (by decide))).trans (hF_86.2.1 _ (xn1 (xne_k hk9999b hk9999h (by decide)) xn0))) : G115.2.1 (F a 18) = G79.2.1 (F a 18))])
                  refine lv_aload_n hx hb dX11_later_125 rfl (lv_at hl 0 rfl) ?_
                  refine gX11_1 S hK hT ha kf_X11_9 dX11_later_126 (fun _ _ => ?_)
                  refine lv_iconst (v := 0) hx hb dX11_later_129 (by decide) ?_
                  refine x_clp (x_runV (b := a) (As := [.int p0, .int x124, .ref (F a 1), .int 0]) (rest := []) S (c_X11_fails l E K F G115 H a p0 x124 (F a 1) 0 ha (XO.a hk9999i (by decide)) (z_X11_later_14 p0.toInt (aI (G79.2.1 (F a 17)) (l4_86.toInt)) c103 (z116).1) (by rw [(show G115.2.1 (F a 10) = G.2.1 (F a 10) from ((lc_c hG115 (xne_k hk9999f hk9999h (by decide))).trans ((hF_86.2.1 _ (xn1 (xne_k hk9999f hk9999h (by decide)) xn0)).trans ((hF79.2.1 _ (xn1 (xne_k hk9999f hk9999 (by decide)) (xn1 (xne_k hk9999f hk9999a (by decide)) (xn1 (xne_k hk9999f hk9999b (by decide)) (xn1 (xne_k hk9999f hk9999c (by decide)) (xn1 (xne_k hk9999f hk9999d (by decide)) xn0)))))).trans ((hF6.2.1 _ xn0).trans (ld_c hG2))))))] <;> exact (z_X11_later_15 p0.toInt x11.toInt (aI (G.2.1 (F a 10)) (10 * p0.toInt + 0)) t11 c14)) (by rw [(hv124 : Int32.toInt x124 = (aI (G79.2.1 (F a 18)) (l4_86.toInt))), (show G115.2.1 (F a 10) = G.2.1 (F a 10) from ((lc_c hG115 (xne_k hk9999f hk9999h (by decide))).trans ((hF_86.2.1 _ (xn1 (xne_k hk9999f hk9999h (by decide)) xn0)).trans ((hF79.2.1 _ (xn1 (xne_k hk9999f hk9999 (by decide)) (xn1 (xne_k hk9999f hk9999a (by decide)) (xn1 (xne_k hk9999f hk9999b (by decide)) (xn1 (xne_k hk9999f hk9999c (by decide)) (xn1 (xne_k hk9999f hk9999d (by decide)) xn0)))))).trans ((hF6.2.1 _ xn0).trans (ld_c hG2))))))] <;> exact (z_X11_later_16 p0.toInt (aI (G79.2.1 (F a 17)) (l4_86.toInt)) (aI (G79.2.1 (F a 18)) (l4_86.toInt)) (sF (aI (G.2.1 (F a 10)) (10 * aI (G79.2.1 (F a 17)) (l4_86.toInt) + 0))) (sF (aI (G.2.1 (F a 10)) (10 * p0.toInt + 0))) (sL (aI (G.2.1 (F a 10)) (10 * aI (G79.2.1 (F a 17)) (l4_86.toInt) + 0))) (sL (aI (G.2.1 (F a 10)) (10 * p0.toInt + 0))) c103 (z116).2.2 z116b)) (v_X11_later_130_28 (F := F) a G G115 hR ((lc_c hG115 (xne_k hk9999f hk9999h (by decide))).trans ((hF_86.2.1 _ (xn1 (xne_k hk9999f hk9999h (by decide)) xn0)).trans ((hF79.2.1 _ (xn1 (xne_k hk9999f hk9999 (by decide)) (xn1 (xne_k hk9999f hk9999a (by decide)) (xn1 (xne_k hk9999f hk9999b (by decide)) (xn1 (xne_k hk9999f hk9999c (by decide)) (xn1 (xne_k hk9999f hk9999d (by decide)) xn0)))))).trans ((hF6.2.1 _ xn0).trans (ld_c hG2)))))) (v_X11_later_130_29 (F := F) a G G115 hM hB ((lc_c hG115 (xne_k hk9999i hk9999h (by decide))).trans ((hF_86.2.1 _ (xn1 (xne_k hk9999i hk9999h (by decide)) xn0)).trans ((hF79.2.1 _ (xn1 (xne_k hk9999i hk9999 (by decide)) (xn1 (xne_k hk9999i hk9999a (by decide)) (xn1 (xne_k hk9999i hk9999b (by decide)) (xn1 (xne_k hk9999i hk9999c (by decide)) (xn1 (xne_k hk9999i hk9999d (by decide)) xn0)))))).trans ((hF6.2.1 _ xn0).trans (ld_c hG2))))))) mv_X11_fails km_X11_221 rfl rfl ⟨Nat.le_of_ble_eq_true rfl, Nat.le_of_ble_eq_true rfl⟩ (rc_13 hK hT ha) hK (fun _ => XPh.blind) (fun U hU hW => XPh.at hK hz hS hT hU hW) rfl hl.1 (Nat.le_of_ble_eq_true rfl) dX11_later_130 ⟨Nat.le_of_ble_eq_true rfl, Nat.le_of_ble_eq_true rfl⟩) hS ?_
                  rintro _ _ locs ⟨x130, rfl, b130, t130⟩ hS
                  have t130 : x130.toInt = (flq (mw (G.2.1 (F a 1)) 0) (aI (G.2.1 (F a 10)) (10 * p0.toInt + 0)) (aI (G.2.1 (F a 10)) (10 * p0.toInt + 1)) (aI (G.2.1 (F a 10)) (10 * p0.toInt + 2)) (aI (G.2.1 (F a 10)) (10 * p0.toInt + 4)) (aI (G.2.1 (F a 10)) (10 * p0.toInt + 5)) (aI (G79.2.1 (F a 18)) (l4_86.toInt)) (stt (mw (G.2.1 (F a 1)) 0) (aI (G.2.1 (F a 10)) (10 * p0.toInt + 0)) (aI (G.2.1 (F a 10)) (10 * p0.toInt + 1)) (aI (G.2.1 (F a 10)) (10 * p0.toInt + 2)) (aI (G.2.1 (F a 10)) (10 * p0.toInt + 3)) (aI (G79.2.1 (F a 18)) (l4_86.toInt)))) := by rw [(hv124 : Int32.toInt x124 = (aI (G79.2.1 (F a 18)) (l4_86.toInt)))] at t130; rw [(show G115.2.1 (F a 1) = G.2.1 (F a 1) from ((lc_c hG115 (xne_k hk9999i hk9999h (by decide))).trans ((hF_86.2.1 _ (xn1 (xne_k hk9999i hk9999h (by decide)) xn0)).trans ((hF79.2.1 _ (xn1 (xne_k hk9999i hk9999 (by decide)) (xn1 (xne_k hk9999i hk9999a (by decide)) (xn1 (xne_k hk9999i hk9999b (by decide)) (xn1 (xne_k hk9999i hk9999c (by decide)) (xn1 (xne_k hk9999i hk9999d (by decide)) xn0)))))).trans ((hF6.2.1 _ xn0).trans (ld_c hG2))))))] at t130; rw [(show G115.2.1 (F a 10) = G.2.1 (F a 10) from ((lc_c hG115 (xne_k hk9999f hk9999h (by decide))).trans ((hF_86.2.1 _ (xn1 (xne_k hk9999f hk9999h (by decide)) xn0)).trans ((hF79.2.1 _ (xn1 (xne_k hk9999f hk9999 (by decide)) (xn1 (xne_k hk9999f hk9999a (by decide)) (xn1 (xne_k hk9999f hk9999b (by decide)) (xn1 (xne_k hk9999f hk9999c (by decide)) (xn1 (xne_k hk9999f hk9999d (by decide)) xn0)))))).trans ((hF6.2.1 _ xn0).trans (ld_c hG2))))))] at t130; exact t130
                  refine xi_zeq (tgt := 151) hx hb (rfl : Int32.toInt x130 = x130.toInt) dX11_later_133 (by decide) (fun c133 => ?_) (fun c133 => ?_)
                  · refine xi_iinc (n := 1) (lv' := fun z9 => [(4, .int z9), (0, .ref a), (1, .int p0), (3, .int x79)]) (k := 3) hx hb (rfl : Int32.toInt l4_86 = l4_86.toInt) (by decide) dX11_later_151 hl rfl (by decide) (fun _ => rfl) (fun x151 ls t151 hl => ?_)
                    have e151 : x151.toInt = (l4_86.toInt + 1) := (z_X11_later_8 l4_86.toInt x151.toInt x79.toInt ((G79.1 a 19).toInt) t79 I86_0 t151)
                    have hl : lv_has ls 5 [(4, .int x151), (0, .ref a), (1, .int p0), (3, .int x79)] := hl
                    refine lv_goto (tgt := 86) hx hb dX11_later_154 (by decide) ?_
                    exact ih86 x151 G115 _ _ _ (by rw [hG115]; exact XFr.cput (XFr.call XFr.rf hF_86 xm0 (xm1 0 rfl xm0) xm0) (List.mem_of_getElem? (i := 0) rfl)) (by rw [(e151 : Int32.toInt x151 = (l4_86.toInt + 1))] <;> exact (v_X11_later_154_30 (K := K) (F := F) a G G6 G79 p0 x79 l4_86 p1 x11 N86 x130 ha oq79a pl z0 t6 t11 c14 c28 c36 c43 t79 I86_0 I86_1 hm86 c92 c103 z116 z116a z116b t130 (xzi b130) c133)) (by rw [(e151 : Int32.toInt x151 = (l4_86.toInt + 1))] <;> exact (z_X11_later_9 l4_86.toInt ((G79.1 a 19).toInt) I86_0 c92)) (by rw [(e151 : Int32.toInt x151 = (l4_86.toInt + 1))] <;> exact (z_X11_later_10 l4_86.toInt ((G79.1 a 19).toInt) I86_0)) (by rw [(e151 : Int32.toInt x151 = (l4_86.toInt + 1))] <;> exact (z_X11_later_11 l4_86.toInt N86 hm86)) hT hS (lv_sub hl [1, 2, 3, 0] rfl)
                  · refine lv_aload_n hx hb dX11_later_136 rfl (lv_at hl 0 rfl) ?_
                    refine lv_iload_n hx hb dX11_later_137 rfl (lv_at hl 1 rfl) ?_
                    refine lv_aload_n hx hb dX11_later_138 rfl (lv_at hl 0 rfl) ?_
                    refine gX11_18 S hK hT ha kf_X11_54 dX11_later_139 (fun _ _ => ?_)
                    refine lv_iload hx hb dX11_later_142 (lv_at hl 3 rfl) ?_
                    refine al_0 S hK hT hk9999b ar_44 (by decide) (z_X11_later_7 l4_86.toInt x79.toInt ((G79.1 a 19).toInt) t79 I86_0) dX11_later_144 (fun x144 hv144 o144 => ?_)
                    have hv144 : x144.toInt = (aI (G79.2.1 (F a 18)) (l4_86.toInt)) := hv144.trans (by rw [(rfl : Int32.toInt l4_86 = l4_86.toInt), (((lc_c hG115 (xne_k hk9999b hk9999h (by decide))).trans (hF_86.2.1 _ (xn1 (xne_k hk9999b hk9999h (by decide)) xn0))) : G115.2.1 (F a 18) = G79.2.1 (F a 18))])
                    refine x_cv0 (x_runV (b := a) (As := [.int p0, .int x144]) (rest := []) S (c_X11_failed l E K F G115 a p0 x144 ha (z_X11_later_14 p0.toInt (aI (G79.2.1 (F a 17)) (l4_86.toInt)) c103 (z116).1) (by rw [(hv144 : Int32.toInt x144 = (aI (G79.2.1 (F a 18)) (l4_86.toInt)))] <;> exact (z_X11_later_23 (aI (G79.2.1 (F a 18)) (l4_86.toInt)) (sF (aI (G.2.1 (F a 10)) (10 * aI (G79.2.1 (F a 17)) (l4_86.toInt) + 0))) (sL (aI (G.2.1 (F a 10)) (10 * aI (G79.2.1 (F a 17)) (l4_86.toInt) + 0))) (z116).2.2 (z116a).1 (z116a).2))) mv_X11_failed km_X11_299 rfl rfl ⟨Nat.le_of_ble_eq_true rfl, Nat.le_of_ble_eq_true rfl⟩ (rc_13 hK hT ha) hK (fun _ => XP.blind) (fun U hU hW => XP.at hK hz hS hT hU hW) rfl hl.1 (Nat.le_of_ble_eq_true rfl) dX11_later_145 ⟨Nat.le_of_ble_eq_true rfl, Nat.le_of_ble_eq_true rfl⟩) hS ?_
                    rintro G145 H locs ⟨hF145, t145⟩ hT hS
                    have t145 : ((G145.1 a 20).toInt) = p0.toInt ∧ ((G145.1 a 21).toInt) = (aI (G79.2.1 (F a 18)) (l4_86.toInt)) ∧ 0 ≤ ((G145.1 a 23).toInt) ∧ ((G145.1 a 23).toInt) ≤ 24 := by rw [(hv144 : Int32.toInt x144 = (aI (G79.2.1 (F a 18)) (l4_86.toInt)))] at t145; exact t145
                    refine lv_bipush (v := (-5)) hx hb dX11_later_148 (by decide) ?_
                    exact x_ri hx hb hr hlk hQ (Nat.le_of_ble_eq_true rfl) (Nat.le_of_ble_eq_true rfl) hS dX11_later_150 G145 ⟨_, rfl, (XFr.call (by rw [hG115]; exact XFr.cput (XFr.call (XFr.call (XFr.call (by rw [hG2]; exact XFr.dput XFr.rf (List.mem_of_getElem? (i := 5) rfl)) hF6 (xm1 2 rfl (xm1 3 rfl (xm1 4 rfl xm0))) xm0 xm0) hF79 (xm1 0 rfl (xm1 1 rfl xm0)) (xm1 0 rfl (xm1 1 rfl (xm1 2 rfl (xm1 3 rfl (xm1 4 rfl xm0))))) xm0) hF_86 xm0 (xm1 8 rfl xm0) xm0) (List.mem_of_getElem? (i := 8) rfl)) hF145 (xm1 2 rfl (xm1 3 rfl (xm1 4 rfl xm0))) (xm1 5 rfl xm0) xm0), (z_X11_later_24 p0.toInt ((G145.1 a 20).toInt) ((G145.1 a 21).toInt) ((G145.1 a 23).toInt) (aI (G79.2.1 (F a 18)) (l4_86.toInt)) t145), (by rw [((by decide) : Int32.toInt (-5) = (-5 : Int))] <;> exact (v_X11_later_150_31 (K := K) (F := F) a G G6 G79 G145 p0 x79 l4_86 p1 x11 N86 x130 ha oq79 oq79a z0 t6 t11 c14 c28 c36 c43 t79 I86_0 I86_1 hm86 c92 c103 z116 z116a z116b t130 (xzi b130) c133 t145 ((hF145.2.1 _ (xn1 (xne_k hk9999f hk9999e (by decide)) xn0)).trans ((lc_c hG115 (xne_k hk9999f hk9999h (by decide))).trans ((hF_86.2.1 _ (xn1 (xne_k hk9999f hk9999h (by decide)) xn0)).trans ((hF79.2.1 _ (xn1 (xne_k hk9999f hk9999 (by decide)) (xn1 (xne_k hk9999f hk9999a (by decide)) (xn1 (xne_k hk9999f hk9999b (by decide)) (xn1 (xne_k hk9999f hk9999c (by decide)) (xn1 (xne_k hk9999f hk9999d (by decide)) xn0)))))).trans ((hF6.2.1 _ xn0).trans (ld_c hG2)))))))), (v_X11_later_150_32 (F := F) a G G145 hR ((hF145.2.1 _ (xn1 (xne_k hk9999f hk9999e (by decide)) xn0)).trans ((lc_c hG115 (xne_k hk9999f hk9999h (by decide))).trans ((hF_86.2.1 _ (xn1 (xne_k hk9999f hk9999h (by decide)) xn0)).trans ((hF79.2.1 _ (xn1 (xne_k hk9999f hk9999 (by decide)) (xn1 (xne_k hk9999f hk9999a (by decide)) (xn1 (xne_k hk9999f hk9999b (by decide)) (xn1 (xne_k hk9999f hk9999c (by decide)) (xn1 (xne_k hk9999f hk9999d (by decide)) xn0)))))).trans ((hF6.2.1 _ xn0).trans (ld_c hG2)))))))⟩ hT
          exact L86 4294967297 0 G79 _ _ _ XFr.rf (v_X11_later_84_33 (K := K) (F := F) a G G6 G79 p0 x79 p1 x11 ha oq79a z0 t6 t11 c14 c28 c36 c43 t79) (z_X11_later_25 x79.toInt ((G79.1 a 19).toInt) t79) (by decide) (by decide) hT hS (lv_sub hl [2, 3, 1, 0] rfl)
        · refine lv_aload_n hx hb dX11_later_46 rfl (lv_at hl 0 rfl) ?_
          refine gX11_10 S hK hT ha kf_X11_33 dX11_later_47 (fun _ _ => ?_)
          refine lv_bipush (v := 10) hx hb dX11_later_50 (by decide) ?_
          refine lv_iload_n hx hb dX11_later_52 rfl (lv_at hl 1 rfl) ?_
          refine xi_imul hx hb ((by decide) : Int32.toInt 10 = (10 : Int)) (rfl : Int32.toInt p0 = p0.toInt) dX11_later_53 (fun x53 t53 => ?_)
          have e53 : x53.toInt = ((10 : Int) * p0.toInt) := (z_X11_later_3 p0.toInt x11.toInt x53.toInt (aI (G.2.1 (F a 10)) (10 * p0.toInt + 0)) t11 c14 t53)
          refine lv_bipush (v := 6) hx hb dX11_later_54 (by decide) ?_
          refine xi_iadd hx hb (e53 : Int32.toInt x53 = ((10 : Int) * p0.toInt)) ((by decide) : Int32.toInt 6 = (6 : Int)) dX11_later_56 (fun x56 t56 => ?_)
          have e56 : x56.toInt = (((10 : Int) * p0.toInt) + (6 : Int)) := (z_X11_later_4 p0.toInt x11.toInt x56.toInt (aI (G.2.1 (F a 10)) (10 * p0.toInt + 0)) t11 c14 t56)
          refine lv_iconst (v := 1) hx hb dX11_later_57 (by decide) ?_
          refine as_0 (x := 1) S hK hT hS hk9999f ar_37 aw_37 (by decide) (by rw [(e56 : Int32.toInt x56 = (((10 : Int) * p0.toInt) + (6 : Int)))]; exact (z_X11_later_5 p0.toInt x11.toInt (aI (G.2.1 (F a 10)) (10 * p0.toInt + 0)) t11 c14)) dX11_later_58 (fun H locs hT hS => ?_)
          obtain ⟨G58, hG58⟩ : ∃ GG : XG, GG = cput G6 (F a 10) x56.toNatClampNeg 1 := ⟨_, rfl⟩
          rw [← hG58] at hT
          refine lv_aload_n hx hb dX11_later_59 rfl (lv_at hl 0 rfl) ?_
          refine lv_iload_n hx hb dX11_later_60 rfl (lv_at hl 1 rfl) ?_
          refine x_cl0 (x_runV (b := a) (As := [.int p0]) (rest := []) S (c_X11_inQueue l E K F G58 a p0 ha (v_X11_later_61_34 (K := K) (F := F) a G G6 G58 x56 p0 p1 x11 ha hG58 hR e56 z0 t6 t11 c14 c28 c36 ((hF6.2.1 _ xn0).trans (ld_c hG2))) (v_X11_later_61_35 (F := F) a G G58 hM hB ((lc_c hG58 (xne_k hk9999i hk9999f (by decide))).trans ((hF6.2.1 _ xn0).trans (ld_c hG2)))) (v_X11_later_61_36 (F := F) a G G58 hM hB ((lc_c hG58 (xne_k hk9999j hk9999f (by decide))).trans ((hF6.2.1 _ xn0).trans (ld_c hG2))))) mv_X11_inQueue km_X11_306 rfl rfl ⟨Nat.le_of_ble_eq_true rfl, Nat.le_of_ble_eq_true rfl⟩ (rc_13 hK hT ha) hK (fun _ => XP.blind) (fun U hU hW => XP.at hK hz hS hT hU hW) rfl hl.1 (Nat.le_of_ble_eq_true rfl) dX11_later_61 ⟨Nat.le_of_ble_eq_true rfl, Nat.le_of_ble_eq_true rfl⟩) hS ?_
          rintro _ G61 H locs ⟨x61, rfl, hF61, t61, oq61, oq61a⟩ hT hS
          have t61 : 0 ≤ x61.toInt ∧ x61.toInt ≤ 2388 ∧ 0 ≤ ((G61.1 a 19).toInt) ∧ ((G61.1 a 19).toInt) ≤ 2388 := t61
          have oq61 : pL G61 F a = if ((G.1 a 6).toInt) = 0 then [] else fuO (G58.2.1 (F a 10)) (mw (G.2.1 (F a 1)) 0) (mw (G.2.1 (F a 2)) 0) 1 := by simp only [(show G58.1 a 6 = G.1 a 6 from ((lc_d hG58).trans ((hF6.1 _ _ (xnj (by decide) (xnj (by decide) (xnj (by decide) xn0)))).trans (ld_j hG2 (by decide))))), (show G58.2.1 (F a 1) = G.2.1 (F a 1) from ((lc_c hG58 (xne_k hk9999i hk9999f (by decide))).trans ((hF6.2.1 _ xn0).trans (ld_c hG2)))), (show G58.2.1 (F a 2) = G.2.1 (F a 2) from ((lc_c hG58 (xne_k hk9999j hk9999f (by decide))).trans ((hF6.2.1 _ xn0).trans (ld_c hG2))))] at oq61; exact oq61
          refine lv_istore_n (lv' := [(3, .int x61), (0, .ref a), (1, .int p0), (2, .int p1)]) hx hb dX11_later_64 rfl hl (by decide) rfl (fun ls hl => ?_)
          refine lv_aload_n hx hb dX11_later_65 rfl (lv_at hl 1 rfl) ?_
          refine gX11_8 S hK hT ha kf_X11_27 dX11_later_66 (fun _ _ => ?_)
          refine lv_iconst (v := 0) hx hb dX11_later_69 (by decide) ?_
          refine lv_dup2_11 hx hb dX11_later_70 rfl rfl ?_
          refine al_0 S hK hT hk9999g ar_35 (by decide) (by decide) dX11_later_71 (fun x71 hv71 o71 => ?_)
          have hv71 : x71.toInt = (aI (G.2.1 (F a 8)) 0) := hv71.trans (by rw [((by decide) : Int32.toInt 0 = (0 : Int)), (((hF61.2.1 _ (xn1 (xne_k hk9999g hk9999 (by decide)) (xn1 (xne_k hk9999g hk9999a (by decide)) (xn1 (xne_k hk9999g hk9999b (by decide)) (xn1 (xne_k hk9999g hk9999c (by decide)) (xn1 (xne_k hk9999g hk9999d (by decide)) xn0)))))).trans ((lc_c hG58 (xne_k hk9999g hk9999f (by decide))).trans ((hF6.2.1 _ xn0).trans (ld_c hG2)))) : G61.2.1 (F a 8) = G.2.1 (F a 8))])
          refine lv_iload_n hx hb dX11_later_72 rfl (lv_at hl 0 rfl) ?_
          refine xi_iadd hx hb (hv71 : Int32.toInt x71 = (aI (G.2.1 (F a 8)) 0)) (rfl : Int32.toInt x61 = x61.toInt) dX11_later_73 (fun x73 t73 => ?_)
          refine as_0 (x := x73) S hK hT hS hk9999g ar_35 aw_35 (by decide) (by decide) dX11_later_74 (fun H locs hT hS => ?_)
          obtain ⟨G74, hG74⟩ : ∃ GG : XG, GG = cput G61 (F a 8) (0 : Int32).toNatClampNeg x73 := ⟨_, rfl⟩
          rw [← hG74] at hT
          refine lv_iload_n hx hb dX11_later_75 rfl (lv_at hl 0 rfl) ?_
          exact x_ri hx hb hr hlk hQ (Nat.le_of_ble_eq_true rfl) (Nat.le_of_ble_eq_true rfl) hS dX11_later_76 G74 ⟨_, rfl, (by rw [hG74]; exact XFr.cput (XFr.call (by rw [hG58]; exact XFr.cput (XFr.call (by rw [hG2]; exact XFr.dput XFr.rf (List.mem_of_getElem? (i := 5) rfl)) hF6 (xm1 2 rfl (xm1 3 rfl (xm1 4 rfl xm0))) xm0 xm0) (List.mem_of_getElem? (i := 6) rfl)) hF61 (xm1 0 rfl (xm1 1 rfl xm0)) (xm1 0 rfl (xm1 1 rfl (xm1 2 rfl (xm1 3 rfl (xm1 4 rfl xm0))))) xm0) (List.mem_of_getElem? (i := 7) rfl)), (by rw [(show (G74.1 a 23).toInt = ((G6.1 a 23).toInt) from (congrArg Int32.toInt ((lc_d hG74).trans ((hF61.1 _ _ (xnj (by decide) (xnj (by decide) xn0))).trans (lc_d hG58)))).trans (rfl : Int32.toInt (G6.1 a 23) = ((G6.1 a 23).toInt)))] <;> exact (z_X11_later_6 ((G6.1 a 20).toInt) ((G6.1 a 21).toInt) ((G6.1 a 23).toInt) t6)), (v_X11_later_76_37 (K := K) (F := F) a G G6 G58 x56 G61 G74 p0 x61 p1 x11 ha hG58 e56 oq61 oq61a z0 t6 t11 c14 c28 c36 t61 ((hF6.2.1 _ xn0).trans (ld_c hG2)) ((lc_c hG74 (xne_k hk9999f hk9999g (by decide))).trans (hF61.2.1 _ (xn1 (xne_k hk9999f hk9999 (by decide)) (xn1 (xne_k hk9999f hk9999a (by decide)) (xn1 (xne_k hk9999f hk9999b (by decide)) (xn1 (xne_k hk9999f hk9999c (by decide)) (xn1 (xne_k hk9999f hk9999d (by decide)) xn0)))))))), (v_X11_later_76_38 (K := K) (F := F) a G G6 G58 x56 G61 G74 p0 x61 p1 x11 ha hG58 hR e56 oq61a z0 t6 t11 c14 c28 c36 t61 ((hF6.2.1 _ xn0).trans (ld_c hG2)) ((lc_c hG74 (xne_k hk9999f hk9999g (by decide))).trans (hF61.2.1 _ (xn1 (xne_k hk9999f hk9999 (by decide)) (xn1 (xne_k hk9999f hk9999a (by decide)) (xn1 (xne_k hk9999f hk9999b (by decide)) (xn1 (xne_k hk9999f hk9999c (by decide)) (xn1 (xne_k hk9999f hk9999d (by decide)) xn0))))))))⟩ hT
      · refine lv_bipush (v := (-4)) hx hb dX11_later_39 (by decide) ?_
        exact x_ri hx hb hr hlk hQ (Nat.le_of_ble_eq_true rfl) (Nat.le_of_ble_eq_true rfl) hS dX11_later_41 G6 ⟨_, rfl, (XFr.call (by rw [hG2]; exact XFr.dput XFr.rf (List.mem_of_getElem? (i := 5) rfl)) hF6 (xm1 2 rfl (xm1 3 rfl (xm1 4 rfl xm0))) xm0 xm0), (z_X11_later_6 ((G6.1 a 20).toInt) ((G6.1 a 21).toInt) ((G6.1 a 23).toInt) t6), (by rw [((by decide) : Int32.toInt (-4) = (-4 : Int))] <;> exact (v_X11_later_41_39 (K := K) (F := F) a G G6 p0 p1 x11 ha z0 t6 t11 c14 c28 c36 ((hF6.2.1 _ xn0).trans (ld_c hG2)))), (v_X11_later_41_40 (F := F) a G G6 hR ((hF6.2.1 _ xn0).trans (ld_c hG2)))⟩ hT
  · refine lv_bipush (v := (-2)) hx hb dX11_later_17 (by decide) ?_
    exact x_ri hx hb hr hlk hQ (Nat.le_of_ble_eq_true rfl) (Nat.le_of_ble_eq_true rfl) hS dX11_later_19 G6 ⟨_, rfl, (XFr.call (by rw [hG2]; exact XFr.dput XFr.rf (List.mem_of_getElem? (i := 5) rfl)) hF6 (xm1 2 rfl (xm1 3 rfl (xm1 4 rfl xm0))) xm0 xm0), (z_X11_later_6 ((G6.1 a 20).toInt) ((G6.1 a 21).toInt) ((G6.1 a 23).toInt) t6), (by rw [((by decide) : Int32.toInt (-2) = (-2 : Int))] <;> exact (v_X11_later_19_41 (K := K) (F := F) a G G6 p1 x11 p0 ha z0 t6 t11 c14 ((hF6.2.1 _ xn0).trans (ld_c hG2)))), (v_X11_later_19_42 (F := F) a G G6 hR ((hF6.2.1 _ xn0).trans (ld_c hG2)))⟩ hT
theorem v_X11_back_31_1 {F : Nat → Nat → Nat} (a : Nat) (G : XG) (G6 : XG)
    (hR : RV (G.2.1 (F a 10)))
    (c_G6_F_a_10 : G6.2.1 (F a 10) = G.2.1 (F a 10)) :
    RV (G6.2.1 (F a 10)) := by simp only [c_G6_F_a_10]; assumption
theorem v_X11_back_129_2 {F : Nat → Nat → Nat} (a : Nat) (G : XG) (G31 : XG)
    (hR : RV (G.2.1 (F a 10)))
    (c_G31_F_a_10 : G31.2.1 (F a 10) = G.2.1 (F a 10)) :
    RV (G31.2.1 (F a 10)) := by simp only [c_G31_F_a_10]; assumption
theorem v_X11_back_129_3 {F : Nat → Nat → Nat} (a : Nat) (G : XG) (G31 : XG)
    (hM : RM (G.2.1 (F a 1)) (0))
    (hB : RM (G.2.1 (F a 2)) 0)
    (c_G31_F_a_1 : G31.2.1 (F a 1) = G.2.1 (F a 1)) :
    RM (G31.2.1 (F a 1)) (0 : Int) := by simp only [c_G31_F_a_1]; assumption
theorem v_X11_back_146_4 {K : Nat → Nat} {F : Nat → Nat → Nat} (a : Nat) (G2 : XG) (G : XG) (G6 : XG) (G31 : XG) (G129 : XG) (l2_36 : Int32) (p0 : Int32) (x140 : Int32) (x21 : Int32) (N36 : Nat)
    (ha : K a = 13)
    (hk9999 : K (F a 15) = 42)
    (hj9999 : F (F a 15) 99 = 15)
    (hk9999a : K (F a 17) = 43)
    (hj9999a : F (F a 17) 99 = 17)
    (hk9999b : K (F a 18) = 44)
    (hj9999b : F (F a 18) 99 = 18)
    (hk9999c : K (F a 11) = 38)
    (hj9999c : F (F a 11) 99 = 11)
    (hk9999d : K (F a 13) = 38)
    (hj9999d : F (F a 13) 99 = 13)
    (hk9999e : K (F a 22) = 45)
    (hj9999e : F (F a 22) 99 = 22)
    (hk9999f : K (F a 12) = 38)
    (hj9999f : F (F a 12) 99 = 12)
    (hk9999g : K (F a 1) = 30)
    (hj9999g : F (F a 1) 99 = 1)
    (hk9999h : K (F a 8) = 35)
    (hj9999h : F (F a 8) 99 = 8)
    (hk9999i : K (F a 10) = 37)
    (hj9999i : F (F a 10) 99 = 10)
    (hk9999j : K (F a 2) = 31)
    (hj9999j : F (F a 2) 99 = 2)
    (hk9999k : K (F a 3) = 32)
    (hj9999k : F (F a 3) 99 = 3)
    (hG2 : G2 = dput G a 0 0)
    (hF6 : XFr [(a, 20), (a, 21), (a, 23)] [] [] G2 G6)
    (hF31 : XFr [(a, 16)] [F a 15] [] G6 G31)
    (hF129 : XFr [] [F a 12] [] G31 G129)
    (hR : RV (G.2.1 (F a 10)))
    (hM : RM (G.2.1 (F a 1)) (0))
    (hB : RM (G.2.1 (F a 2)) 0)
    (hmk : ∀ m : Int, 0 ≤ m → m < ((G.1 a 7).toInt) → RM (G.2.1 (F a 3)) (360 * m))
    (oq31 : ORm (G.2.1 (F a 10)) (G31.2.1 (F a 15)) ((G31.1 a 16).toInt) 12)
    (oq31a : G31.2.2.2 = G6.2.2.2)
    (pk : ∀ j : Int, 0 ≤ j → j < l2_36.toInt → (aI (G.2.1 (F a 10)) (10 * aI (G31.2.1 (F a 15)) j + 6) = 0 → ∀ s : Int, sbj (aI (G.2.1 (F a 10)) (10 * aI (G31.2.1 (F a 15)) j + 0)) s → fzq (G.2.1 (F a 10)) (mw (G.2.1 (F a 3)) (360 * p0.toInt)) (aI (G31.2.1 (F a 15)) j) s = 0))
    (oq129 : LSt (G.2.1 (F a 10)) (G129.2.1 (F a 12)) (mw (G.2.1 (F a 1)) (0 : Int)) 12)
    (oq129a : G129.2.2.2 = G31.2.2.2)
    (e140 : x140.toInt = ((360 : Int) * p0.toInt))
    (m0 : 0 ≤ ((G.1 a 7).toInt) ∧ ((G.1 a 7).toInt) ≤ 8)
    (t6 : ((G6.1 a 20).toInt) = -2147483648 ∧ ((G6.1 a 21).toInt) = -2147483648 ∧ ((G6.1 a 23).toInt) = 0)
    (f41 : ((G.1 a 6).toInt) = 0 ∨ ((G.1 a 6).toInt) = 1)
    (c13 : ((G.1 a 6).toInt) ≠ 0)
    (t21 : (((G.1 a 6).toInt) ≠ 0 ∧ 0 ≤ p0.toInt ∧ p0.toInt ≤ ((G.1 a 7).toInt) - 1 ∧ x21.toInt = 1) ∨ (¬ (((G.1 a 6).toInt) ≠ 0 ∧ 0 ≤ p0.toInt ∧ p0.toInt ≤ ((G.1 a 7).toInt) - 1) ∧ x21.toInt = 0))
    (c24 : x21.toInt ≠ 0)
    (z34 : 0 ≤ ((G31.1 a 16).toInt) ∧ ((G31.1 a 16).toInt) ≤ 12)
    (I36_0 : 0 ≤ l2_36.toInt ∧ l2_36.toInt ≤ ((G31.1 a 16).toInt))
    (I36_1 : (0 : Int) ≤ l2_36.toInt)
    (hm36 : 2147483648 - l2_36.toInt < (((N36) + 1 : Nat) : Int))
    (c41 : ((G31.1 a 16).toInt) ≤ l2_36.toInt)
    (c_G129_F_a_1 : G129.2.1 (F a 1) = G.2.1 (F a 1))
    (c_G129_F_a_11 : G129.2.1 (F a 11) = G.2.1 (F a 11))
    (c_G129_F_a_13 : G129.2.1 (F a 13) = G.2.1 (F a 13))
    (c_G129_F_a_15 : G129.2.1 (F a 15) = G31.2.1 (F a 15))
    (c_G129_F_a_17 : G129.2.1 (F a 17) = G.2.1 (F a 17))
    (c_G129_F_a_18 : G129.2.1 (F a 18) = G.2.1 (F a 18))
    (c_G129_F_a_22 : G129.2.1 (F a 22) = G.2.1 (F a 22))
    (c_G129_F_a_3 : G129.2.1 (F a 3) = G.2.1 (F a 3))
    (c_G129_F_a_8 : G129.2.1 (F a 8) = G.2.1 (F a 8))
    (c_G31_F_a_3 : G31.2.1 (F a 3) = G.2.1 (F a 3))
    (c_G6_F_a_1 : G6.2.1 (F a 1) = G.2.1 (F a 1))
    (d_G129_a_0 : G129.1 a 0 = 0)
    (d_G129_a_16 : G129.1 a 16 = G31.1 a 16)
    (d_G129_a_19 : G129.1 a 19 = G.1 a 19)
    (d_G129_a_20 : G129.1 a 20 = G6.1 a 20)
    (d_G129_a_21 : G129.1 a 21 = G6.1 a 21)
    (d_G129_a_23 : G129.1 a 23 = G6.1 a 23)
    (d_G129_a_7 : G129.1 a 7 = G.1 a 7)
    (d_G6_a_7 : G6.1 a 7 = G.1 a 7) :
    (F a 3) ≠ (F a 1) := by
  intro e
  have h1 : K (F a 1) = 30 := by assumption
  have h2 : K (F a 3) = 32 := by assumption
  rw [← e, h2] at h1
  exact absurd h1 (by decide)
theorem v_X11_back_159_5 {F : Nat → Nat → Nat} (a : Nat) (G : XG) (G146 : XG)
    (hR : RV (G.2.1 (F a 10)))
    (c_G146_F_a_10 : G146.2.1 (F a 10) = G.2.1 (F a 10)) :
    RV (G146.2.1 (F a 10)) := by simp only [c_G146_F_a_10]; assumption
theorem v_X11_back_159_6 {K : Nat → Nat} {F : Nat → Nat → Nat} (a : Nat) (G : XG) (G6 : XG) (G31 : XG) (G129 : XG) (G146 : XG) (l2_36 : Int32) (p0 : Int32) (x21 : Int32) (N36 : Nat)
    (ha : K a = 13)
    (hmk : ∀ m : Int, 0 ≤ m → m < ((G.1 a 7).toInt) → RM (G.2.1 (F a 3)) (360 * m))
    (oq31a : G31.2.2.2 = G6.2.2.2)
    (oq129a : G129.2.2.2 = G31.2.2.2)
    (oq146 : CPd (G129.2.1 (F a 3)) (G129.2.1 (F a 1)) (G146.2.1 (F a 1)) ((360 : Int) * p0.toInt) (0 : Int) 360)
    (m0 : 0 ≤ ((G.1 a 7).toInt) ∧ ((G.1 a 7).toInt) ≤ 8)
    (t6 : ((G6.1 a 20).toInt) = -2147483648 ∧ ((G6.1 a 21).toInt) = -2147483648 ∧ ((G6.1 a 23).toInt) = 0)
    (f43 : ((G.1 a 6).toInt) = 0 ∨ ((G.1 a 6).toInt) = 1)
    (c13 : ((G.1 a 6).toInt) ≠ 0)
    (t21 : (((G.1 a 6).toInt) ≠ 0 ∧ 0 ≤ p0.toInt ∧ p0.toInt ≤ ((G.1 a 7).toInt) - 1 ∧ x21.toInt = 1) ∨ (¬ (((G.1 a 6).toInt) ≠ 0 ∧ 0 ≤ p0.toInt ∧ p0.toInt ≤ ((G.1 a 7).toInt) - 1) ∧ x21.toInt = 0))
    (c24 : x21.toInt ≠ 0)
    (z34 : 0 ≤ ((G31.1 a 16).toInt) ∧ ((G31.1 a 16).toInt) ≤ 12)
    (I36_0 : 0 ≤ l2_36.toInt ∧ l2_36.toInt ≤ ((G31.1 a 16).toInt))
    (I36_1 : (0 : Int) ≤ l2_36.toInt)
    (hm36 : 2147483648 - l2_36.toInt < (((N36) + 1 : Nat) : Int))
    (c41 : ((G31.1 a 16).toInt) ≤ l2_36.toInt)
    (c_G129_F_a_3 : G129.2.1 (F a 3) = G.2.1 (F a 3)) :
    RM (G146.2.1 (F a 1)) (0 : Int) := by
  exact CPd.rm oq146 (by decide) (by rw [c_G129_F_a_3]; exact hmk p0.toInt (by omega) (by omega))
theorem v_X11_back_172_7 {F : Nat → Nat → Nat} (a : Nat) (G : XG) (G159 : XG)
    (hR : RV (G.2.1 (F a 10)))
    (c_G159_F_a_10 : G159.2.1 (F a 10) = G.2.1 (F a 10)) :
    RV (G159.2.1 (F a 10)) := by simp only [c_G159_F_a_10]; assumption
theorem v_X11_back_172_8 {F : Nat → Nat → Nat} (a : Nat) (G : XG) (G159 : XG)
    (hM : RM (G.2.1 (F a 1)) (0))
    (hB : RM (G.2.1 (F a 2)) 0)
    (c_G159_F_a_2 : G159.2.1 (F a 2) = G.2.1 (F a 2)) :
    RM (G159.2.1 (F a 2)) (0 : Int) := by simp only [c_G159_F_a_2]; assumption
theorem v_X11_back_185_9 {F : Nat → Nat → Nat} (a : Nat) (G : XG) (G172 : XG)
    (hR : RV (G.2.1 (F a 10)))
    (c_G172_F_a_10 : G172.2.1 (F a 10) = G.2.1 (F a 10)) :
    RV (G172.2.1 (F a 10)) := by simp only [c_G172_F_a_10]; assumption
theorem v_X11_back_196_10 {F : Nat → Nat → Nat} (a : Nat) (G : XG) (G192 : XG)
    (hR : RV (G.2.1 (F a 10)))
    (c_G192_F_a_10 : G192.2.1 (F a 10) = G.2.1 (F a 10)) :
    RV (G192.2.1 (F a 10)) := by simp only [c_G192_F_a_10]; assumption
theorem v_X11_back_196_11 {K : Nat → Nat} {F : Nat → Nat → Nat} (a : Nat) (G : XG) (G6 : XG) (G31 : XG) (G129 : XG) (G146 : XG) (G159 : XG) (G172 : XG) (G192 : XG) (l2_36 : Int32) (p0 : Int32) (x21 : Int32) (N36 : Nat)
    (ha : K a = 13)
    (hmk : ∀ m : Int, 0 ≤ m → m < ((G.1 a 7).toInt) → RM (G.2.1 (F a 3)) (360 * m))
    (oq31a : G31.2.2.2 = G6.2.2.2)
    (oq129a : G129.2.2.2 = G31.2.2.2)
    (oq146 : CPd (G129.2.1 (F a 3)) (G129.2.1 (F a 1)) (G146.2.1 (F a 1)) ((360 : Int) * p0.toInt) (0 : Int) 360)
    (oq159a : G159.2.2.2 = G146.2.2.2)
    (oq172a : G172.2.2.2 = G159.2.2.2)
    (m0 : 0 ≤ ((G.1 a 7).toInt) ∧ ((G.1 a 7).toInt) ≤ 8)
    (t6 : ((G6.1 a 20).toInt) = -2147483648 ∧ ((G6.1 a 21).toInt) = -2147483648 ∧ ((G6.1 a 23).toInt) = 0)
    (f52 : ((G.1 a 6).toInt) = 0 ∨ ((G.1 a 6).toInt) = 1)
    (c13 : ((G.1 a 6).toInt) ≠ 0)
    (t21 : (((G.1 a 6).toInt) ≠ 0 ∧ 0 ≤ p0.toInt ∧ p0.toInt ≤ ((G.1 a 7).toInt) - 1 ∧ x21.toInt = 1) ∨ (¬ (((G.1 a 6).toInt) ≠ 0 ∧ 0 ≤ p0.toInt ∧ p0.toInt ≤ ((G.1 a 7).toInt) - 1) ∧ x21.toInt = 0))
    (c24 : x21.toInt ≠ 0)
    (z34 : 0 ≤ ((G31.1 a 16).toInt) ∧ ((G31.1 a 16).toInt) ≤ 12)
    (I36_0 : 0 ≤ l2_36.toInt ∧ l2_36.toInt ≤ ((G31.1 a 16).toInt))
    (I36_1 : (0 : Int) ≤ l2_36.toInt)
    (hm36 : 2147483648 - l2_36.toInt < (((N36) + 1 : Nat) : Int))
    (c41 : ((G31.1 a 16).toInt) ≤ l2_36.toInt)
    (c_G129_F_a_3 : G129.2.1 (F a 3) = G.2.1 (F a 3))
    (c_G192_F_a_1 : G192.2.1 (F a 1) = G146.2.1 (F a 1)) :
    RM (G192.2.1 (F a 1)) (0) := by
  first | exact CPd.rm oq146 (by decide) (by rw [c_G129_F_a_3]; exact hmk p0.toInt (by omega) (by omega)) | (rw [c_G192_F_a_1]; exact CPd.rm oq146 (by decide) (by rw [c_G129_F_a_3]; exact hmk p0.toInt (by omega) (by omega)))
theorem v_X11_back_196_12 {F : Nat → Nat → Nat} (a : Nat) (G : XG) (G192 : XG)
    (hM : RM (G.2.1 (F a 1)) (0))
    (hB : RM (G.2.1 (F a 2)) 0)
    (c_G192_F_a_2 : G192.2.1 (F a 2) = G.2.1 (F a 2)) :
    RM (G192.2.1 (F a 2)) 0 := by simp only [c_G192_F_a_2]; assumption
theorem v_X11_back_199_13 {K : Nat → Nat} {F : Nat → Nat → Nat} (a : Nat) (G : XG) (G6 : XG) (G31 : XG) (G129 : XG) (G146 : XG) (G159 : XG) (G172 : XG) (x191 : Int32) (G196 : XG) (l2_36 : Int32) (p0 : Int32) (x196 : Int32) (x21 : Int32) (N36 : Nat)
    (ha : K a = 13)
    (oq31 : ORm (G.2.1 (F a 10)) (G31.2.1 (F a 15)) ((G31.1 a 16).toInt) 12)
    (oq31a : G31.2.2.2 = G6.2.2.2)
    (pk : ∀ j : Int, 0 ≤ j → j < l2_36.toInt → (aI (G.2.1 (F a 10)) (10 * aI (G31.2.1 (F a 15)) j + 6) = 0 → ∀ s : Int, sbj (aI (G.2.1 (F a 10)) (10 * aI (G31.2.1 (F a 15)) j + 0)) s → fzq (G.2.1 (F a 10)) (mw (G.2.1 (F a 3)) (360 * p0.toInt)) (aI (G31.2.1 (F a 15)) j) s = 0))
    (oq129a : G129.2.2.2 = G31.2.2.2)
    (oq146 : CPd (G129.2.1 (F a 3)) (G129.2.1 (F a 1)) (G146.2.1 (F a 1)) ((360 : Int) * p0.toInt) (0 : Int) 360)
    (oq159a : G159.2.2.2 = G146.2.2.2)
    (oq172a : G172.2.2.2 = G159.2.2.2)
    (e191 : x191.toInt = (p0.toInt + (1 : Int)))
    (oq196 : pL G196 F a = if ((G.1 a 6).toInt) = 0 then [] else fuO (G.2.1 (F a 10)) (mw (G146.2.1 (F a 1)) 0) (mw (G.2.1 (F a 2)) 0) 1)
    (oq196a : x196.toInt = ((G196.1 a 19).toInt))
    (m0 : 0 ≤ ((G.1 a 7).toInt) ∧ ((G.1 a 7).toInt) ≤ 8)
    (t6 : ((G6.1 a 20).toInt) = -2147483648 ∧ ((G6.1 a 21).toInt) = -2147483648 ∧ ((G6.1 a 23).toInt) = 0)
    (f55 : ((G.1 a 6).toInt) = 0 ∨ ((G.1 a 6).toInt) = 1)
    (c13 : ((G.1 a 6).toInt) ≠ 0)
    (t21 : (((G.1 a 6).toInt) ≠ 0 ∧ 0 ≤ p0.toInt ∧ p0.toInt ≤ ((G.1 a 7).toInt) - 1 ∧ x21.toInt = 1) ∨ (¬ (((G.1 a 6).toInt) ≠ 0 ∧ 0 ≤ p0.toInt ∧ p0.toInt ≤ ((G.1 a 7).toInt) - 1) ∧ x21.toInt = 0))
    (c24 : x21.toInt ≠ 0)
    (z34 : 0 ≤ ((G31.1 a 16).toInt) ∧ ((G31.1 a 16).toInt) ≤ 12)
    (I36_0 : 0 ≤ l2_36.toInt ∧ l2_36.toInt ≤ ((G31.1 a 16).toInt))
    (I36_1 : (0 : Int) ≤ l2_36.toInt)
    (hm36 : 2147483648 - l2_36.toInt < (((N36) + 1 : Nat) : Int))
    (c41 : ((G31.1 a 16).toInt) ≤ l2_36.toInt)
    (t196 : 0 ≤ x196.toInt ∧ x196.toInt ≤ 2388)
    (c_G129_F_a_3 : G129.2.1 (F a 3) = G.2.1 (F a 3))
    (c_G196_F_a_1 : G196.2.1 (F a 1) = G146.2.1 (F a 1))
    (d_G196_a_7 : G196.1 a 7 = x191) :
    (((G.1 a 6).toInt) = 0 ∧ x196.toInt = -3 ∧ (G196.2.1 (F a 1) = (G.2.1 (F a 1)) ∧ ((G196.1 a 7).toInt) = ((G.1 a 7).toInt))) ∨ (((G.1 a 6).toInt) ≠ 0 ∧ ¬ (0 ≤ p0.toInt ∧ p0.toInt < ((G.1 a 7).toInt)) ∧ x196.toInt = -2 ∧ (G196.2.1 (F a 1) = (G.2.1 (F a 1)) ∧ ((G196.1 a 7).toInt) = ((G.1 a 7).toInt))) ∨ (((G.1 a 6).toInt) ≠ 0 ∧ (0 ≤ p0.toInt ∧ p0.toInt < ((G.1 a 7).toInt)) ∧ ((PFl (G.2.1 (F a 10)) (mw (G.2.1 (F a 3)) (360 * p0.toInt)) ∧ x196.toInt = -5 ∧ (G196.2.1 (F a 1) = (G.2.1 (F a 1)) ∧ ((G196.1 a 7).toInt) = ((G.1 a 7).toInt))) ∨ (¬ PFl (G.2.1 (F a 10)) (mw (G.2.1 (F a 3)) (360 * p0.toInt)) ∧ mw (G196.2.1 (F a 1)) 0 = (mw (G.2.1 (F a 3)) (360 * p0.toInt)) ∧ ((G196.1 a 7).toInt) = p0.toInt + 1 ∧ x196.toInt = (((fuO (G.2.1 (F a 10)) (mw (G196.2.1 (F a 1)) 0) (mw (G.2.1 (F a 2)) 0) 1).length : Nat) : Int)))) := by
  refine Or.inr (Or.inr ⟨by omega, by omega, Or.inr ⟨?_, by rw [c_G196_F_a_1, ← c_G129_F_a_3]; exact CPd.vwm oq146 (by decide), by rw [d_G196_a_7]; omega, (by
    have e := pL_len G196 F a
    rw [oq196, if_neg (by omega)] at e
    rw [c_G196_F_a_1]
    omega)⟩⟩)
  rintro ⟨q, s, hq, hk, hl, hs, hf⟩
  have hp : prM (G.2.1 (F a 10)) q.toNat = true := by
    unfold prM
    rw [show ((q.toNat : Nat) : Int) = q from by omega]
    exact decide_eq_true hk
  obtain ⟨i, h1, h2⟩ := ordN_all (rk := rkM (G.2.1 (F a 10))) (show q.toNat < 12 by omega) hp
  have e1 : aI (G31.2.1 (F a 15)) (i : Int) = q := by
    have := oq31.2 i h1
    rw [h2] at this
    show (G31.2.1 (F a 15) ((i : Int)).toNat).toInt = q
    rw [show ((i : Int)).toNat = i from by omega, this]
    omega
  have e2 := oq31.1
  have := pk (i : Int) (by omega) (by omega)
  rw [e1] at this
  rw [this hl s hs] at hf
  exact absurd hf (by decide)
theorem v_X11_back_199_14 {K : Nat → Nat} {F : Nat → Nat → Nat} (a : Nat) (G : XG) (G6 : XG) (G31 : XG) (G129 : XG) (G146 : XG) (G159 : XG) (G172 : XG) (G196 : XG) (l2_36 : Int32) (p0 : Int32) (x196 : Int32) (x21 : Int32) (N36 : Nat)
    (ha : K a = 13)
    (hmk : ∀ m : Int, 0 ≤ m → m < ((G.1 a 7).toInt) → RM (G.2.1 (F a 3)) (360 * m))
    (oq31a : G31.2.2.2 = G6.2.2.2)
    (oq129a : G129.2.2.2 = G31.2.2.2)
    (oq146 : CPd (G129.2.1 (F a 3)) (G129.2.1 (F a 1)) (G146.2.1 (F a 1)) ((360 : Int) * p0.toInt) (0 : Int) 360)
    (oq159a : G159.2.2.2 = G146.2.2.2)
    (oq172a : G172.2.2.2 = G159.2.2.2)
    (oq196a : x196.toInt = ((G196.1 a 19).toInt))
    (m0 : 0 ≤ ((G.1 a 7).toInt) ∧ ((G.1 a 7).toInt) ≤ 8)
    (t6 : ((G6.1 a 20).toInt) = -2147483648 ∧ ((G6.1 a 21).toInt) = -2147483648 ∧ ((G6.1 a 23).toInt) = 0)
    (f55 : ((G.1 a 6).toInt) = 0 ∨ ((G.1 a 6).toInt) = 1)
    (c13 : ((G.1 a 6).toInt) ≠ 0)
    (t21 : (((G.1 a 6).toInt) ≠ 0 ∧ 0 ≤ p0.toInt ∧ p0.toInt ≤ ((G.1 a 7).toInt) - 1 ∧ x21.toInt = 1) ∨ (¬ (((G.1 a 6).toInt) ≠ 0 ∧ 0 ≤ p0.toInt ∧ p0.toInt ≤ ((G.1 a 7).toInt) - 1) ∧ x21.toInt = 0))
    (c24 : x21.toInt ≠ 0)
    (z34 : 0 ≤ ((G31.1 a 16).toInt) ∧ ((G31.1 a 16).toInt) ≤ 12)
    (I36_0 : 0 ≤ l2_36.toInt ∧ l2_36.toInt ≤ ((G31.1 a 16).toInt))
    (I36_1 : (0 : Int) ≤ l2_36.toInt)
    (hm36 : 2147483648 - l2_36.toInt < (((N36) + 1 : Nat) : Int))
    (c41 : ((G31.1 a 16).toInt) ≤ l2_36.toInt)
    (t196 : 0 ≤ x196.toInt ∧ x196.toInt ≤ 2388)
    (c_G129_F_a_3 : G129.2.1 (F a 3) = G.2.1 (F a 3))
    (c_G196_F_a_1 : G196.2.1 (F a 1) = G146.2.1 (F a 1)) :
    RM (G196.2.1 (F a 1)) 0 := by
  rw [c_G196_F_a_1]; exact CPd.rm oq146 (by decide) (by rw [c_G129_F_a_3]; exact hmk p0.toInt (by omega) (by omega))
theorem v_X11_back_116_15 {K : Nat → Nat} {F : Nat → Nat → Nat} (a : Nat) (G : XG) (G6 : XG) (G31 : XG) (l2_36 : Int32) (p0 : Int32) (l4_58 : Int32) (x21 : Int32) (N36 : Nat) (N58 : Nat)
    (ha : K a = 13)
    (oq31a : G31.2.2.2 = G6.2.2.2)
    (pk : ∀ j : Int, 0 ≤ j → j < l2_36.toInt → (aI (G.2.1 (F a 10)) (10 * aI (G31.2.1 (F a 15)) j + 6) = 0 → ∀ s : Int, sbj (aI (G.2.1 (F a 10)) (10 * aI (G31.2.1 (F a 15)) j + 0)) s → fzq (G.2.1 (F a 10)) (mw (G.2.1 (F a 3)) (360 * p0.toInt)) (aI (G31.2.1 (F a 15)) j) s = 0))
    (ps : ∀ s : Int, sF (aI (G.2.1 (F a 10)) (10 * (aI (G31.2.1 (F a 15)) (l2_36.toInt)) + 0)) ≤ s → s < l4_58.toInt → fzq (G.2.1 (F a 10)) (mw (G.2.1 (F a 3)) (360 * p0.toInt)) (aI (G31.2.1 (F a 15)) (l2_36.toInt)) s = 0)
    (m0 : 0 ≤ ((G.1 a 7).toInt) ∧ ((G.1 a 7).toInt) ≤ 8)
    (t6 : ((G6.1 a 20).toInt) = -2147483648 ∧ ((G6.1 a 21).toInt) = -2147483648 ∧ ((G6.1 a 23).toInt) = 0)
    (f42 : ((G.1 a 6).toInt) = 0 ∨ ((G.1 a 6).toInt) = 1)
    (c13 : ((G.1 a 6).toInt) ≠ 0)
    (t21 : (((G.1 a 6).toInt) ≠ 0 ∧ 0 ≤ p0.toInt ∧ p0.toInt ≤ ((G.1 a 7).toInt) - 1 ∧ x21.toInt = 1) ∨ (¬ (((G.1 a 6).toInt) ≠ 0 ∧ 0 ≤ p0.toInt ∧ p0.toInt ≤ ((G.1 a 7).toInt) - 1) ∧ x21.toInt = 0))
    (c24 : x21.toInt ≠ 0)
    (z34 : 0 ≤ ((G31.1 a 16).toInt) ∧ ((G31.1 a 16).toInt) ≤ 12)
    (I36_0 : 0 ≤ l2_36.toInt ∧ l2_36.toInt ≤ ((G31.1 a 16).toInt))
    (I36_1 : (0 : Int) ≤ l2_36.toInt)
    (hm36 : 2147483648 - l2_36.toInt < (((N36) + 1 : Nat) : Int))
    (c41 : ¬ (((G31.1 a 16).toInt) ≤ l2_36.toInt))
    (z51 : 0 ≤ (aI (G31.2.1 (F a 15)) (l2_36.toInt)) ∧ (aI (G31.2.1 (F a 15)) (l2_36.toInt)) ≤ 11 ∧ (aI (G.2.1 (F a 10)) (10 * (aI (G31.2.1 (F a 15)) (l2_36.toInt)) + 0)) ≠ -1)
    (z51a : (((aI (G.2.1 (F a 10)) (10 * (aI (G31.2.1 (F a 15)) (l2_36.toInt)) + 0)) = 2 ∨ (aI (G.2.1 (F a 10)) (10 * (aI (G31.2.1 (F a 15)) (l2_36.toInt)) + 0)) = 4 ∨ (aI (G.2.1 (F a 10)) (10 * (aI (G31.2.1 (F a 15)) (l2_36.toInt)) + 0)) = 5) ∧ (sF (aI (G.2.1 (F a 10)) (10 * (aI (G31.2.1 (F a 15)) (l2_36.toInt)) + 0))) = 0 ∧ (sL (aI (G.2.1 (F a 10)) (10 * (aI (G31.2.1 (F a 15)) (l2_36.toInt)) + 0))) = 29) ∨ (¬ ((aI (G.2.1 (F a 10)) (10 * (aI (G31.2.1 (F a 15)) (l2_36.toInt)) + 0)) = 2 ∨ (aI (G.2.1 (F a 10)) (10 * (aI (G31.2.1 (F a 15)) (l2_36.toInt)) + 0)) = 4 ∨ (aI (G.2.1 (F a 10)) (10 * (aI (G31.2.1 (F a 15)) (l2_36.toInt)) + 0)) = 5) ∧ (sF (aI (G.2.1 (F a 10)) (10 * (aI (G31.2.1 (F a 15)) (l2_36.toInt)) + 0))) = -99 ∧ (sL (aI (G.2.1 (F a 10)) (10 * (aI (G31.2.1 (F a 15)) (l2_36.toInt)) + 0))) = 99))
    (I58_0 : (sF (aI (G.2.1 (F a 10)) (10 * (aI (G31.2.1 (F a 15)) (l2_36.toInt)) + 0))) ≤ l4_58.toInt ∧ l4_58.toInt ≤ (sL (aI (G.2.1 (F a 10)) (10 * (aI (G31.2.1 (F a 15)) (l2_36.toInt)) + 0))) + 1)
    (hm58 : 2147483648 - l4_58.toInt < (((N58) + 1 : Nat) : Int))
    (c65 : (sL (aI (G.2.1 (F a 10)) (10 * (aI (G31.2.1 (F a 15)) (l2_36.toInt)) + 0))) < l4_58.toInt) :
    ∀ j : Int, 0 ≤ j → j < (l2_36.toInt + 1) → (aI (G.2.1 (F a 10)) (10 * aI (G31.2.1 (F a 15)) j + 6) = 0 → ∀ s : Int, sbj (aI (G.2.1 (F a 10)) (10 * aI (G31.2.1 (F a 15)) j + 0)) s → fzq (G.2.1 (F a 10)) (mw (G.2.1 (F a 3)) (360 * p0.toInt)) (aI (G31.2.1 (F a 15)) j) s = 0) := by
  intro j h1 h2
  by_cases e : j = l2_36.toInt
  · subst e
    intro hl s hs
    have := sbj_FL.mp hs
    exact ps s this.1 (by omega)
  · exact pk j h1 (by omega)
theorem v_X11_back_116_16 {K : Nat → Nat} {F : Nat → Nat → Nat} (a : Nat) (G : XG) (G6 : XG) (G31 : XG) (l2_36 : Int32) (p0 : Int32) (l4_58 : Int32) (x21 : Int32) (N36 : Nat) (N58 : Nat)
    (ha : K a = 13)
    (oq31a : G31.2.2.2 = G6.2.2.2)
    (pk : ∀ j : Int, 0 ≤ j → j < l2_36.toInt → (aI (G.2.1 (F a 10)) (10 * aI (G31.2.1 (F a 15)) j + 6) = 0 → ∀ s : Int, sbj (aI (G.2.1 (F a 10)) (10 * aI (G31.2.1 (F a 15)) j + 0)) s → fzq (G.2.1 (F a 10)) (mw (G.2.1 (F a 3)) (360 * p0.toInt)) (aI (G31.2.1 (F a 15)) j) s = 0))
    (m0 : 0 ≤ ((G.1 a 7).toInt) ∧ ((G.1 a 7).toInt) ≤ 8)
    (t6 : ((G6.1 a 20).toInt) = -2147483648 ∧ ((G6.1 a 21).toInt) = -2147483648 ∧ ((G6.1 a 23).toInt) = 0)
    (f43 : ((G.1 a 6).toInt) = 0 ∨ ((G.1 a 6).toInt) = 1)
    (c13 : ((G.1 a 6).toInt) ≠ 0)
    (t21 : (((G.1 a 6).toInt) ≠ 0 ∧ 0 ≤ p0.toInt ∧ p0.toInt ≤ ((G.1 a 7).toInt) - 1 ∧ x21.toInt = 1) ∨ (¬ (((G.1 a 6).toInt) ≠ 0 ∧ 0 ≤ p0.toInt ∧ p0.toInt ≤ ((G.1 a 7).toInt) - 1) ∧ x21.toInt = 0))
    (c24 : x21.toInt ≠ 0)
    (z34 : 0 ≤ ((G31.1 a 16).toInt) ∧ ((G31.1 a 16).toInt) ≤ 12)
    (I36_0 : 0 ≤ l2_36.toInt ∧ l2_36.toInt ≤ ((G31.1 a 16).toInt))
    (I36_1 : (0 : Int) ≤ l2_36.toInt)
    (hm36 : 2147483648 - l2_36.toInt < (((N36) + 1 : Nat) : Int))
    (c41 : ¬ (((G31.1 a 16).toInt) ≤ l2_36.toInt))
    (z51 : 0 ≤ (aI (G31.2.1 (F a 15)) (l2_36.toInt)) ∧ (aI (G31.2.1 (F a 15)) (l2_36.toInt)) ≤ 11 ∧ (aI (G.2.1 (F a 10)) (10 * (aI (G31.2.1 (F a 15)) (l2_36.toInt)) + 0)) ≠ -1)
    (z51a : (((aI (G.2.1 (F a 10)) (10 * (aI (G31.2.1 (F a 15)) (l2_36.toInt)) + 0)) = 2 ∨ (aI (G.2.1 (F a 10)) (10 * (aI (G31.2.1 (F a 15)) (l2_36.toInt)) + 0)) = 4 ∨ (aI (G.2.1 (F a 10)) (10 * (aI (G31.2.1 (F a 15)) (l2_36.toInt)) + 0)) = 5) ∧ (sF (aI (G.2.1 (F a 10)) (10 * (aI (G31.2.1 (F a 15)) (l2_36.toInt)) + 0))) = 0 ∧ (sL (aI (G.2.1 (F a 10)) (10 * (aI (G31.2.1 (F a 15)) (l2_36.toInt)) + 0))) = 29) ∨ (¬ ((aI (G.2.1 (F a 10)) (10 * (aI (G31.2.1 (F a 15)) (l2_36.toInt)) + 0)) = 2 ∨ (aI (G.2.1 (F a 10)) (10 * (aI (G31.2.1 (F a 15)) (l2_36.toInt)) + 0)) = 4 ∨ (aI (G.2.1 (F a 10)) (10 * (aI (G31.2.1 (F a 15)) (l2_36.toInt)) + 0)) = 5) ∧ (sF (aI (G.2.1 (F a 10)) (10 * (aI (G31.2.1 (F a 15)) (l2_36.toInt)) + 0))) = -99 ∧ (sL (aI (G.2.1 (F a 10)) (10 * (aI (G31.2.1 (F a 15)) (l2_36.toInt)) + 0))) = 99))
    (I58_0 : (sF (aI (G.2.1 (F a 10)) (10 * (aI (G31.2.1 (F a 15)) (l2_36.toInt)) + 0))) ≤ l4_58.toInt ∧ l4_58.toInt ≤ (sL (aI (G.2.1 (F a 10)) (10 * (aI (G31.2.1 (F a 15)) (l2_36.toInt)) + 0))) + 1)
    (hm58 : 2147483648 - l4_58.toInt < (((N58) + 1 : Nat) : Int))
    (c65 : ¬ ((sL (aI (G.2.1 (F a 10)) (10 * (aI (G31.2.1 (F a 15)) (l2_36.toInt)) + 0))) < l4_58.toInt))
    (c75 : (aI (G.2.1 (F a 10)) (10 * (aI (G31.2.1 (F a 15)) (l2_36.toInt)) + 6)) ≠ 0) :
    ∀ j : Int, 0 ≤ j → j < (l2_36.toInt + 1) → (aI (G.2.1 (F a 10)) (10 * aI (G31.2.1 (F a 15)) j + 6) = 0 → ∀ s : Int, sbj (aI (G.2.1 (F a 10)) (10 * aI (G31.2.1 (F a 15)) j + 0)) s → fzq (G.2.1 (F a 10)) (mw (G.2.1 (F a 3)) (360 * p0.toInt)) (aI (G31.2.1 (F a 15)) j) s = 0) := by
  intro j h1 h2
  by_cases e : j = l2_36.toInt
  · subst e
    intro hl
    exact absurd hl (by omega)
  · exact pk j h1 (by omega)
theorem v_X11_back_91_17 {F : Nat → Nat → Nat} (a : Nat) (G : XG) (G31 : XG)
    (hR : RV (G.2.1 (F a 10)))
    (c_G31_F_a_10 : G31.2.1 (F a 10) = G.2.1 (F a 10)) :
    RV (G31.2.1 (F a 10)) := by simp only [c_G31_F_a_10]; assumption
theorem v_X11_back_91_18 {K : Nat → Nat} {F : Nat → Nat → Nat} (a : Nat) (G : XG) (G6 : XG) (G31 : XG) (l2_36 : Int32) (p0 : Int32) (l4_58 : Int32) (x21 : Int32) (N36 : Nat) (N58 : Nat)
    (ha : K a = 13)
    (hmk : ∀ m : Int, 0 ≤ m → m < ((G.1 a 7).toInt) → RM (G.2.1 (F a 3)) (360 * m))
    (oq31a : G31.2.2.2 = G6.2.2.2)
    (m0 : 0 ≤ ((G.1 a 7).toInt) ∧ ((G.1 a 7).toInt) ≤ 8)
    (t6 : ((G6.1 a 20).toInt) = -2147483648 ∧ ((G6.1 a 21).toInt) = -2147483648 ∧ ((G6.1 a 23).toInt) = 0)
    (f43 : ((G.1 a 6).toInt) = 0 ∨ ((G.1 a 6).toInt) = 1)
    (c13 : ((G.1 a 6).toInt) ≠ 0)
    (t21 : (((G.1 a 6).toInt) ≠ 0 ∧ 0 ≤ p0.toInt ∧ p0.toInt ≤ ((G.1 a 7).toInt) - 1 ∧ x21.toInt = 1) ∨ (¬ (((G.1 a 6).toInt) ≠ 0 ∧ 0 ≤ p0.toInt ∧ p0.toInt ≤ ((G.1 a 7).toInt) - 1) ∧ x21.toInt = 0))
    (c24 : x21.toInt ≠ 0)
    (z34 : 0 ≤ ((G31.1 a 16).toInt) ∧ ((G31.1 a 16).toInt) ≤ 12)
    (I36_0 : 0 ≤ l2_36.toInt ∧ l2_36.toInt ≤ ((G31.1 a 16).toInt))
    (I36_1 : (0 : Int) ≤ l2_36.toInt)
    (hm36 : 2147483648 - l2_36.toInt < (((N36) + 1 : Nat) : Int))
    (c41 : ¬ (((G31.1 a 16).toInt) ≤ l2_36.toInt))
    (z51 : 0 ≤ (aI (G31.2.1 (F a 15)) (l2_36.toInt)) ∧ (aI (G31.2.1 (F a 15)) (l2_36.toInt)) ≤ 11 ∧ (aI (G.2.1 (F a 10)) (10 * (aI (G31.2.1 (F a 15)) (l2_36.toInt)) + 0)) ≠ -1)
    (z51a : (((aI (G.2.1 (F a 10)) (10 * (aI (G31.2.1 (F a 15)) (l2_36.toInt)) + 0)) = 2 ∨ (aI (G.2.1 (F a 10)) (10 * (aI (G31.2.1 (F a 15)) (l2_36.toInt)) + 0)) = 4 ∨ (aI (G.2.1 (F a 10)) (10 * (aI (G31.2.1 (F a 15)) (l2_36.toInt)) + 0)) = 5) ∧ (sF (aI (G.2.1 (F a 10)) (10 * (aI (G31.2.1 (F a 15)) (l2_36.toInt)) + 0))) = 0 ∧ (sL (aI (G.2.1 (F a 10)) (10 * (aI (G31.2.1 (F a 15)) (l2_36.toInt)) + 0))) = 29) ∨ (¬ ((aI (G.2.1 (F a 10)) (10 * (aI (G31.2.1 (F a 15)) (l2_36.toInt)) + 0)) = 2 ∨ (aI (G.2.1 (F a 10)) (10 * (aI (G31.2.1 (F a 15)) (l2_36.toInt)) + 0)) = 4 ∨ (aI (G.2.1 (F a 10)) (10 * (aI (G31.2.1 (F a 15)) (l2_36.toInt)) + 0)) = 5) ∧ (sF (aI (G.2.1 (F a 10)) (10 * (aI (G31.2.1 (F a 15)) (l2_36.toInt)) + 0))) = -99 ∧ (sL (aI (G.2.1 (F a 10)) (10 * (aI (G31.2.1 (F a 15)) (l2_36.toInt)) + 0))) = 99))
    (I58_0 : (sF (aI (G.2.1 (F a 10)) (10 * (aI (G31.2.1 (F a 15)) (l2_36.toInt)) + 0))) ≤ l4_58.toInt ∧ l4_58.toInt ≤ (sL (aI (G.2.1 (F a 10)) (10 * (aI (G31.2.1 (F a 15)) (l2_36.toInt)) + 0))) + 1)
    (hm58 : 2147483648 - l4_58.toInt < (((N58) + 1 : Nat) : Int))
    (c65 : ¬ ((sL (aI (G.2.1 (F a 10)) (10 * (aI (G31.2.1 (F a 15)) (l2_36.toInt)) + 0))) < l4_58.toInt))
    (c75 : ¬ ((aI (G.2.1 (F a 10)) (10 * (aI (G31.2.1 (F a 15)) (l2_36.toInt)) + 6)) ≠ 0))
    (c_G31_F_a_3 : G31.2.1 (F a 3) = G.2.1 (F a 3)) :
    RM (G31.2.1 (F a 3)) ((360 : Int) * p0.toInt) := by
  rw [c_G31_F_a_3]; exact hmk p0.toInt (by omega) (by omega)
theorem v_X11_back_110_19 {K : Nat → Nat} {F : Nat → Nat → Nat} (a : Nat) (G : XG) (G6 : XG) (G31 : XG) (l2_36 : Int32) (p0 : Int32) (l4_58 : Int32) (x21 : Int32) (N36 : Nat) (N58 : Nat) (x91 : Int32)
    (ha : K a = 13)
    (oq31a : G31.2.2.2 = G6.2.2.2)
    (ps : ∀ s : Int, sF (aI (G.2.1 (F a 10)) (10 * (aI (G31.2.1 (F a 15)) (l2_36.toInt)) + 0)) ≤ s → s < l4_58.toInt → fzq (G.2.1 (F a 10)) (mw (G.2.1 (F a 3)) (360 * p0.toInt)) (aI (G31.2.1 (F a 15)) (l2_36.toInt)) s = 0)
    (m0 : 0 ≤ ((G.1 a 7).toInt) ∧ ((G.1 a 7).toInt) ≤ 8)
    (t6 : ((G6.1 a 20).toInt) = -2147483648 ∧ ((G6.1 a 21).toInt) = -2147483648 ∧ ((G6.1 a 23).toInt) = 0)
    (f44 : ((G.1 a 6).toInt) = 0 ∨ ((G.1 a 6).toInt) = 1)
    (c13 : ((G.1 a 6).toInt) ≠ 0)
    (t21 : (((G.1 a 6).toInt) ≠ 0 ∧ 0 ≤ p0.toInt ∧ p0.toInt ≤ ((G.1 a 7).toInt) - 1 ∧ x21.toInt = 1) ∨ (¬ (((G.1 a 6).toInt) ≠ 0 ∧ 0 ≤ p0.toInt ∧ p0.toInt ≤ ((G.1 a 7).toInt) - 1) ∧ x21.toInt = 0))
    (c24 : x21.toInt ≠ 0)
    (z34 : 0 ≤ ((G31.1 a 16).toInt) ∧ ((G31.1 a 16).toInt) ≤ 12)
    (I36_0 : 0 ≤ l2_36.toInt ∧ l2_36.toInt ≤ ((G31.1 a 16).toInt))
    (I36_1 : (0 : Int) ≤ l2_36.toInt)
    (hm36 : 2147483648 - l2_36.toInt < (((N36) + 1 : Nat) : Int))
    (c41 : ¬ (((G31.1 a 16).toInt) ≤ l2_36.toInt))
    (z51 : 0 ≤ (aI (G31.2.1 (F a 15)) (l2_36.toInt)) ∧ (aI (G31.2.1 (F a 15)) (l2_36.toInt)) ≤ 11 ∧ (aI (G.2.1 (F a 10)) (10 * (aI (G31.2.1 (F a 15)) (l2_36.toInt)) + 0)) ≠ -1)
    (z51a : (((aI (G.2.1 (F a 10)) (10 * (aI (G31.2.1 (F a 15)) (l2_36.toInt)) + 0)) = 2 ∨ (aI (G.2.1 (F a 10)) (10 * (aI (G31.2.1 (F a 15)) (l2_36.toInt)) + 0)) = 4 ∨ (aI (G.2.1 (F a 10)) (10 * (aI (G31.2.1 (F a 15)) (l2_36.toInt)) + 0)) = 5) ∧ (sF (aI (G.2.1 (F a 10)) (10 * (aI (G31.2.1 (F a 15)) (l2_36.toInt)) + 0))) = 0 ∧ (sL (aI (G.2.1 (F a 10)) (10 * (aI (G31.2.1 (F a 15)) (l2_36.toInt)) + 0))) = 29) ∨ (¬ ((aI (G.2.1 (F a 10)) (10 * (aI (G31.2.1 (F a 15)) (l2_36.toInt)) + 0)) = 2 ∨ (aI (G.2.1 (F a 10)) (10 * (aI (G31.2.1 (F a 15)) (l2_36.toInt)) + 0)) = 4 ∨ (aI (G.2.1 (F a 10)) (10 * (aI (G31.2.1 (F a 15)) (l2_36.toInt)) + 0)) = 5) ∧ (sF (aI (G.2.1 (F a 10)) (10 * (aI (G31.2.1 (F a 15)) (l2_36.toInt)) + 0))) = -99 ∧ (sL (aI (G.2.1 (F a 10)) (10 * (aI (G31.2.1 (F a 15)) (l2_36.toInt)) + 0))) = 99))
    (I58_0 : (sF (aI (G.2.1 (F a 10)) (10 * (aI (G31.2.1 (F a 15)) (l2_36.toInt)) + 0))) ≤ l4_58.toInt ∧ l4_58.toInt ≤ (sL (aI (G.2.1 (F a 10)) (10 * (aI (G31.2.1 (F a 15)) (l2_36.toInt)) + 0))) + 1)
    (hm58 : 2147483648 - l4_58.toInt < (((N58) + 1 : Nat) : Int))
    (c65 : ¬ ((sL (aI (G.2.1 (F a 10)) (10 * (aI (G31.2.1 (F a 15)) (l2_36.toInt)) + 0))) < l4_58.toInt))
    (c75 : ¬ ((aI (G.2.1 (F a 10)) (10 * (aI (G31.2.1 (F a 15)) (l2_36.toInt)) + 6)) ≠ 0))
    (t91 : x91.toInt = (flq (mw (G.2.1 (F a 3)) (360 * p0.toInt)) (aI (G.2.1 (F a 10)) (10 * (aI (G31.2.1 (F a 15)) (l2_36.toInt)) + 0)) (aI (G.2.1 (F a 10)) (10 * (aI (G31.2.1 (F a 15)) (l2_36.toInt)) + 1)) (aI (G.2.1 (F a 10)) (10 * (aI (G31.2.1 (F a 15)) (l2_36.toInt)) + 2)) (aI (G.2.1 (F a 10)) (10 * (aI (G31.2.1 (F a 15)) (l2_36.toInt)) + 4)) (aI (G.2.1 (F a 10)) (10 * (aI (G31.2.1 (F a 15)) (l2_36.toInt)) + 5)) (l4_58.toInt) (stt (mw (G.2.1 (F a 3)) (360 * p0.toInt)) (aI (G.2.1 (F a 10)) (10 * (aI (G31.2.1 (F a 15)) (l2_36.toInt)) + 0)) (aI (G.2.1 (F a 10)) (10 * (aI (G31.2.1 (F a 15)) (l2_36.toInt)) + 1)) (aI (G.2.1 (F a 10)) (10 * (aI (G31.2.1 (F a 15)) (l2_36.toInt)) + 2)) (aI (G.2.1 (F a 10)) (10 * (aI (G31.2.1 (F a 15)) (l2_36.toInt)) + 3)) (l4_58.toInt))))
    (f60 : x91.toInt = 0 ∨ x91.toInt = 1)
    (c94 : x91.toInt = 0) :
    ∀ s : Int, sF (aI (G.2.1 (F a 10)) (10 * (aI (G31.2.1 (F a 15)) (l2_36.toInt)) + 0)) ≤ s → s < (l4_58.toInt + 1) → fzq (G.2.1 (F a 10)) (mw (G.2.1 (F a 3)) (360 * p0.toInt)) (aI (G31.2.1 (F a 15)) (l2_36.toInt)) s = 0 := by
  intro s h1 h2
  by_cases e : s = l4_58.toInt
  · subst e
    have t9 : flq _ _ _ _ _ _ _ _ = 0 := t91.symm.trans c94
    exact t9
  · exact ps s h1 (by omega)
theorem v_X11_back_106_20 {K : Nat → Nat} {F : Nat → Nat → Nat} (a : Nat) (G : XG) (G6 : XG) (G31 : XG) (G101 : XG) (l2_36 : Int32) (p0 : Int32) (l4_58 : Int32) (x21 : Int32) (N36 : Nat) (N58 : Nat) (x91 : Int32)
    (ha : K a = 13)
    (oq31a : G31.2.2.2 = G6.2.2.2)
    (m0 : 0 ≤ ((G.1 a 7).toInt) ∧ ((G.1 a 7).toInt) ≤ 8)
    (t6 : ((G6.1 a 20).toInt) = -2147483648 ∧ ((G6.1 a 21).toInt) = -2147483648 ∧ ((G6.1 a 23).toInt) = 0)
    (f44 : ((G.1 a 6).toInt) = 0 ∨ ((G.1 a 6).toInt) = 1)
    (c13 : ((G.1 a 6).toInt) ≠ 0)
    (t21 : (((G.1 a 6).toInt) ≠ 0 ∧ 0 ≤ p0.toInt ∧ p0.toInt ≤ ((G.1 a 7).toInt) - 1 ∧ x21.toInt = 1) ∨ (¬ (((G.1 a 6).toInt) ≠ 0 ∧ 0 ≤ p0.toInt ∧ p0.toInt ≤ ((G.1 a 7).toInt) - 1) ∧ x21.toInt = 0))
    (c24 : x21.toInt ≠ 0)
    (z34 : 0 ≤ ((G31.1 a 16).toInt) ∧ ((G31.1 a 16).toInt) ≤ 12)
    (I36_0 : 0 ≤ l2_36.toInt ∧ l2_36.toInt ≤ ((G31.1 a 16).toInt))
    (I36_1 : (0 : Int) ≤ l2_36.toInt)
    (hm36 : 2147483648 - l2_36.toInt < (((N36) + 1 : Nat) : Int))
    (c41 : ¬ (((G31.1 a 16).toInt) ≤ l2_36.toInt))
    (z51 : 0 ≤ (aI (G31.2.1 (F a 15)) (l2_36.toInt)) ∧ (aI (G31.2.1 (F a 15)) (l2_36.toInt)) ≤ 11 ∧ (aI (G.2.1 (F a 10)) (10 * (aI (G31.2.1 (F a 15)) (l2_36.toInt)) + 0)) ≠ -1)
    (z51a : (((aI (G.2.1 (F a 10)) (10 * (aI (G31.2.1 (F a 15)) (l2_36.toInt)) + 0)) = 2 ∨ (aI (G.2.1 (F a 10)) (10 * (aI (G31.2.1 (F a 15)) (l2_36.toInt)) + 0)) = 4 ∨ (aI (G.2.1 (F a 10)) (10 * (aI (G31.2.1 (F a 15)) (l2_36.toInt)) + 0)) = 5) ∧ (sF (aI (G.2.1 (F a 10)) (10 * (aI (G31.2.1 (F a 15)) (l2_36.toInt)) + 0))) = 0 ∧ (sL (aI (G.2.1 (F a 10)) (10 * (aI (G31.2.1 (F a 15)) (l2_36.toInt)) + 0))) = 29) ∨ (¬ ((aI (G.2.1 (F a 10)) (10 * (aI (G31.2.1 (F a 15)) (l2_36.toInt)) + 0)) = 2 ∨ (aI (G.2.1 (F a 10)) (10 * (aI (G31.2.1 (F a 15)) (l2_36.toInt)) + 0)) = 4 ∨ (aI (G.2.1 (F a 10)) (10 * (aI (G31.2.1 (F a 15)) (l2_36.toInt)) + 0)) = 5) ∧ (sF (aI (G.2.1 (F a 10)) (10 * (aI (G31.2.1 (F a 15)) (l2_36.toInt)) + 0))) = -99 ∧ (sL (aI (G.2.1 (F a 10)) (10 * (aI (G31.2.1 (F a 15)) (l2_36.toInt)) + 0))) = 99))
    (I58_0 : (sF (aI (G.2.1 (F a 10)) (10 * (aI (G31.2.1 (F a 15)) (l2_36.toInt)) + 0))) ≤ l4_58.toInt ∧ l4_58.toInt ≤ (sL (aI (G.2.1 (F a 10)) (10 * (aI (G31.2.1 (F a 15)) (l2_36.toInt)) + 0))) + 1)
    (hm58 : 2147483648 - l4_58.toInt < (((N58) + 1 : Nat) : Int))
    (c65 : ¬ ((sL (aI (G.2.1 (F a 10)) (10 * (aI (G31.2.1 (F a 15)) (l2_36.toInt)) + 0))) < l4_58.toInt))
    (c75 : ¬ ((aI (G.2.1 (F a 10)) (10 * (aI (G31.2.1 (F a 15)) (l2_36.toInt)) + 6)) ≠ 0))
    (t91 : x91.toInt = (flq (mw (G.2.1 (F a 3)) (360 * p0.toInt)) (aI (G.2.1 (F a 10)) (10 * (aI (G31.2.1 (F a 15)) (l2_36.toInt)) + 0)) (aI (G.2.1 (F a 10)) (10 * (aI (G31.2.1 (F a 15)) (l2_36.toInt)) + 1)) (aI (G.2.1 (F a 10)) (10 * (aI (G31.2.1 (F a 15)) (l2_36.toInt)) + 2)) (aI (G.2.1 (F a 10)) (10 * (aI (G31.2.1 (F a 15)) (l2_36.toInt)) + 4)) (aI (G.2.1 (F a 10)) (10 * (aI (G31.2.1 (F a 15)) (l2_36.toInt)) + 5)) (l4_58.toInt) (stt (mw (G.2.1 (F a 3)) (360 * p0.toInt)) (aI (G.2.1 (F a 10)) (10 * (aI (G31.2.1 (F a 15)) (l2_36.toInt)) + 0)) (aI (G.2.1 (F a 10)) (10 * (aI (G31.2.1 (F a 15)) (l2_36.toInt)) + 1)) (aI (G.2.1 (F a 10)) (10 * (aI (G31.2.1 (F a 15)) (l2_36.toInt)) + 2)) (aI (G.2.1 (F a 10)) (10 * (aI (G31.2.1 (F a 15)) (l2_36.toInt)) + 3)) (l4_58.toInt))))
    (f60 : x91.toInt = 0 ∨ x91.toInt = 1)
    (c94 : ¬ (x91.toInt = 0))
    (t101 : ((G101.1 a 20).toInt) = (aI (G31.2.1 (F a 15)) (l2_36.toInt)) ∧ ((G101.1 a 21).toInt) = l4_58.toInt ∧ 0 ≤ ((G101.1 a 23).toInt) ∧ ((G101.1 a 23).toInt) ≤ 24)
    (c_G101_F_a_1 : G101.2.1 (F a 1) = G.2.1 (F a 1))
    (d_G101_a_7 : G101.1 a 7 = G.1 a 7) :
    (((G.1 a 6).toInt) = 0 ∧ (-5 : Int) = -3 ∧ (G101.2.1 (F a 1) = (G.2.1 (F a 1)) ∧ ((G101.1 a 7).toInt) = ((G.1 a 7).toInt))) ∨ (((G.1 a 6).toInt) ≠ 0 ∧ ¬ (0 ≤ p0.toInt ∧ p0.toInt < ((G.1 a 7).toInt)) ∧ (-5 : Int) = -2 ∧ (G101.2.1 (F a 1) = (G.2.1 (F a 1)) ∧ ((G101.1 a 7).toInt) = ((G.1 a 7).toInt))) ∨ (((G.1 a 6).toInt) ≠ 0 ∧ (0 ≤ p0.toInt ∧ p0.toInt < ((G.1 a 7).toInt)) ∧ ((PFl (G.2.1 (F a 10)) (mw (G.2.1 (F a 3)) (360 * p0.toInt)) ∧ (-5 : Int) = -5 ∧ (G101.2.1 (F a 1) = (G.2.1 (F a 1)) ∧ ((G101.1 a 7).toInt) = ((G.1 a 7).toInt))) ∨ (¬ PFl (G.2.1 (F a 10)) (mw (G.2.1 (F a 3)) (360 * p0.toInt)) ∧ mw (G101.2.1 (F a 1)) 0 = (mw (G.2.1 (F a 3)) (360 * p0.toInt)) ∧ ((G101.1 a 7).toInt) = p0.toInt + 1 ∧ (-5 : Int) = (((fuO (G.2.1 (F a 10)) (mw (G101.2.1 (F a 1)) 0) (mw (G.2.1 (F a 2)) 0) 1).length : Nat) : Int)))) := by
  have h01 := flq01 (mw (G.2.1 (F a 3)) (360 * p0.toInt)) (aI (G.2.1 (F a 10)) (10 * aI (G31.2.1 (F a 15)) (l2_36.toInt) + 0)) (aI (G.2.1 (F a 10)) (10 * aI (G31.2.1 (F a 15)) (l2_36.toInt) + 1)) (aI (G.2.1 (F a 10)) (10 * aI (G31.2.1 (F a 15)) (l2_36.toInt) + 2)) (aI (G.2.1 (F a 10)) (10 * aI (G31.2.1 (F a 15)) (l2_36.toInt) + 4)) (aI (G.2.1 (F a 10)) (10 * aI (G31.2.1 (F a 15)) (l2_36.toInt) + 5)) l4_58.toInt (stt (mw (G.2.1 (F a 3)) (360 * p0.toInt)) (aI (G.2.1 (F a 10)) (10 * aI (G31.2.1 (F a 15)) (l2_36.toInt) + 0)) (aI (G.2.1 (F a 10)) (10 * aI (G31.2.1 (F a 15)) (l2_36.toInt) + 1)) (aI (G.2.1 (F a 10)) (10 * aI (G31.2.1 (F a 15)) (l2_36.toInt) + 2)) (aI (G.2.1 (F a 10)) (10 * aI (G31.2.1 (F a 15)) (l2_36.toInt) + 3)) l4_58.toInt)
  refine Or.inr (Or.inr ⟨by omega, by omega, Or.inl ⟨⟨aI (G31.2.1 (F a 15)) (l2_36.toInt), l4_58.toInt, by omega, by omega, by omega, sbj_FL.mpr (by omega), ?_⟩, rfl, by rw [c_G101_F_a_1], by rw [d_G101_a_7]⟩⟩)
  show flq _ _ _ _ _ _ _ _ = 1
  omega
theorem v_X11_back_106_21 {F : Nat → Nat → Nat} (a : Nat) (G : XG) (G101 : XG)
    (hM : RM (G.2.1 (F a 1)) (0))
    (c_G101_F_a_1 : G101.2.1 (F a 1) = G.2.1 (F a 1)) :
    RM (G101.2.1 (F a 1)) 0 := by
  rw [c_G101_F_a_1]; exact hM
theorem v_X11_back_56_22 {K : Nat → Nat} {F : Nat → Nat → Nat} (a : Nat) (G : XG) (G6 : XG) (G31 : XG) (l2_36 : Int32) (p0 : Int32) (x21 : Int32) (N36 : Nat)
    (ha : K a = 13)
    (oq31a : G31.2.2.2 = G6.2.2.2)
    (m0 : 0 ≤ ((G.1 a 7).toInt) ∧ ((G.1 a 7).toInt) ≤ 8)
    (t6 : ((G6.1 a 20).toInt) = -2147483648 ∧ ((G6.1 a 21).toInt) = -2147483648 ∧ ((G6.1 a 23).toInt) = 0)
    (f39 : ((G.1 a 6).toInt) = 0 ∨ ((G.1 a 6).toInt) = 1)
    (c13 : ((G.1 a 6).toInt) ≠ 0)
    (t21 : (((G.1 a 6).toInt) ≠ 0 ∧ 0 ≤ p0.toInt ∧ p0.toInt ≤ ((G.1 a 7).toInt) - 1 ∧ x21.toInt = 1) ∨ (¬ (((G.1 a 6).toInt) ≠ 0 ∧ 0 ≤ p0.toInt ∧ p0.toInt ≤ ((G.1 a 7).toInt) - 1) ∧ x21.toInt = 0))
    (c24 : x21.toInt ≠ 0)
    (z34 : 0 ≤ ((G31.1 a 16).toInt) ∧ ((G31.1 a 16).toInt) ≤ 12)
    (I36_0 : 0 ≤ l2_36.toInt ∧ l2_36.toInt ≤ ((G31.1 a 16).toInt))
    (I36_1 : (0 : Int) ≤ l2_36.toInt)
    (hm36 : 2147483648 - l2_36.toInt < (((N36) + 1 : Nat) : Int))
    (c41 : ¬ (((G31.1 a 16).toInt) ≤ l2_36.toInt))
    (z51 : 0 ≤ (aI (G31.2.1 (F a 15)) (l2_36.toInt)) ∧ (aI (G31.2.1 (F a 15)) (l2_36.toInt)) ≤ 11 ∧ (aI (G.2.1 (F a 10)) (10 * (aI (G31.2.1 (F a 15)) (l2_36.toInt)) + 0)) ≠ -1)
    (z51a : (((aI (G.2.1 (F a 10)) (10 * (aI (G31.2.1 (F a 15)) (l2_36.toInt)) + 0)) = 2 ∨ (aI (G.2.1 (F a 10)) (10 * (aI (G31.2.1 (F a 15)) (l2_36.toInt)) + 0)) = 4 ∨ (aI (G.2.1 (F a 10)) (10 * (aI (G31.2.1 (F a 15)) (l2_36.toInt)) + 0)) = 5) ∧ (sF (aI (G.2.1 (F a 10)) (10 * (aI (G31.2.1 (F a 15)) (l2_36.toInt)) + 0))) = 0 ∧ (sL (aI (G.2.1 (F a 10)) (10 * (aI (G31.2.1 (F a 15)) (l2_36.toInt)) + 0))) = 29) ∨ (¬ ((aI (G.2.1 (F a 10)) (10 * (aI (G31.2.1 (F a 15)) (l2_36.toInt)) + 0)) = 2 ∨ (aI (G.2.1 (F a 10)) (10 * (aI (G31.2.1 (F a 15)) (l2_36.toInt)) + 0)) = 4 ∨ (aI (G.2.1 (F a 10)) (10 * (aI (G31.2.1 (F a 15)) (l2_36.toInt)) + 0)) = 5) ∧ (sF (aI (G.2.1 (F a 10)) (10 * (aI (G31.2.1 (F a 15)) (l2_36.toInt)) + 0))) = -99 ∧ (sL (aI (G.2.1 (F a 10)) (10 * (aI (G31.2.1 (F a 15)) (l2_36.toInt)) + 0))) = 99)) :
    ∀ s : Int, sF (aI (G.2.1 (F a 10)) (10 * (aI (G31.2.1 (F a 15)) (l2_36.toInt)) + 0)) ≤ s → s < (sF (aI (G.2.1 (F a 10)) (10 * (aI (G31.2.1 (F a 15)) (l2_36.toInt)) + 0))) → fzq (G.2.1 (F a 10)) (mw (G.2.1 (F a 3)) (360 * p0.toInt)) (aI (G31.2.1 (F a 15)) (l2_36.toInt)) s = 0 := by
  intro s h1 h2; exact absurd h1 (by omega)
theorem v_X11_back_35_23 {K : Nat → Nat} {F : Nat → Nat → Nat} (a : Nat) (G : XG) (G6 : XG) (G31 : XG) (p0 : Int32) (x21 : Int32)
    (ha : K a = 13)
    (oq31a : G31.2.2.2 = G6.2.2.2)
    (m0 : 0 ≤ ((G.1 a 7).toInt) ∧ ((G.1 a 7).toInt) ≤ 8)
    (t6 : ((G6.1 a 20).toInt) = -2147483648 ∧ ((G6.1 a 21).toInt) = -2147483648 ∧ ((G6.1 a 23).toInt) = 0)
    (f36 : ((G.1 a 6).toInt) = 0 ∨ ((G.1 a 6).toInt) = 1)
    (c13 : ((G.1 a 6).toInt) ≠ 0)
    (t21 : (((G.1 a 6).toInt) ≠ 0 ∧ 0 ≤ p0.toInt ∧ p0.toInt ≤ ((G.1 a 7).toInt) - 1 ∧ x21.toInt = 1) ∨ (¬ (((G.1 a 6).toInt) ≠ 0 ∧ 0 ≤ p0.toInt ∧ p0.toInt ≤ ((G.1 a 7).toInt) - 1) ∧ x21.toInt = 0))
    (c24 : x21.toInt ≠ 0)
    (z34 : 0 ≤ ((G31.1 a 16).toInt) ∧ ((G31.1 a 16).toInt) ≤ 12) :
    ∀ j : Int, 0 ≤ j → j < (0 : Int) → (aI (G.2.1 (F a 10)) (10 * aI (G31.2.1 (F a 15)) j + 6) = 0 → ∀ s : Int, sbj (aI (G.2.1 (F a 10)) (10 * aI (G31.2.1 (F a 15)) j + 0)) s → fzq (G.2.1 (F a 10)) (mw (G.2.1 (F a 3)) (360 * p0.toInt)) (aI (G31.2.1 (F a 15)) j) s = 0) := by
  intro j h1 h2; exact absurd h1 (by omega)
theorem v_X11_back_29_24 {K : Nat → Nat} {F : Nat → Nat → Nat} (a : Nat) (G : XG) (G6 : XG) (p0 : Int32) (x21 : Int32)
    (ha : K a = 13)
    (m0 : 0 ≤ ((G.1 a 7).toInt) ∧ ((G.1 a 7).toInt) ≤ 8)
    (t6 : ((G6.1 a 20).toInt) = -2147483648 ∧ ((G6.1 a 21).toInt) = -2147483648 ∧ ((G6.1 a 23).toInt) = 0)
    (f33 : ((G.1 a 6).toInt) = 0 ∨ ((G.1 a 6).toInt) = 1)
    (c13 : ((G.1 a 6).toInt) ≠ 0)
    (t21 : (((G.1 a 6).toInt) ≠ 0 ∧ 0 ≤ p0.toInt ∧ p0.toInt ≤ ((G.1 a 7).toInt) - 1 ∧ x21.toInt = 1) ∨ (¬ (((G.1 a 6).toInt) ≠ 0 ∧ 0 ≤ p0.toInt ∧ p0.toInt ≤ ((G.1 a 7).toInt) - 1) ∧ x21.toInt = 0))
    (c24 : ¬ (x21.toInt ≠ 0))
    (c_G6_F_a_1 : G6.2.1 (F a 1) = G.2.1 (F a 1))
    (d_G6_a_7 : G6.1 a 7 = G.1 a 7) :
    (((G.1 a 6).toInt) = 0 ∧ (-2 : Int) = -3 ∧ (G6.2.1 (F a 1) = (G.2.1 (F a 1)) ∧ ((G6.1 a 7).toInt) = ((G.1 a 7).toInt))) ∨ (((G.1 a 6).toInt) ≠ 0 ∧ ¬ (0 ≤ p0.toInt ∧ p0.toInt < ((G.1 a 7).toInt)) ∧ (-2 : Int) = -2 ∧ (G6.2.1 (F a 1) = (G.2.1 (F a 1)) ∧ ((G6.1 a 7).toInt) = ((G.1 a 7).toInt))) ∨ (((G.1 a 6).toInt) ≠ 0 ∧ (0 ≤ p0.toInt ∧ p0.toInt < ((G.1 a 7).toInt)) ∧ ((PFl (G.2.1 (F a 10)) (mw (G.2.1 (F a 3)) (360 * p0.toInt)) ∧ (-2 : Int) = -5 ∧ (G6.2.1 (F a 1) = (G.2.1 (F a 1)) ∧ ((G6.1 a 7).toInt) = ((G.1 a 7).toInt))) ∨ (¬ PFl (G.2.1 (F a 10)) (mw (G.2.1 (F a 3)) (360 * p0.toInt)) ∧ mw (G6.2.1 (F a 1)) 0 = (mw (G.2.1 (F a 3)) (360 * p0.toInt)) ∧ ((G6.1 a 7).toInt) = p0.toInt + 1 ∧ (-2 : Int) = (((fuO (G.2.1 (F a 10)) (mw (G6.2.1 (F a 1)) 0) (mw (G.2.1 (F a 2)) 0) 1).length : Nat) : Int)))) := by
  exact Or.inr (Or.inl ⟨by omega, by omega, rfl, by rw [c_G6_F_a_1], by rw [d_G6_a_7]⟩)
theorem v_X11_back_29_25 {F : Nat → Nat → Nat} (a : Nat) (G : XG) (G6 : XG)
    (hM : RM (G.2.1 (F a 1)) (0))
    (c_G6_F_a_1 : G6.2.1 (F a 1) = G.2.1 (F a 1)) :
    RM (G6.2.1 (F a 1)) 0 := by
  rw [c_G6_F_a_1]; exact hM
theorem v_X11_back_18_26 {K : Nat → Nat} {F : Nat → Nat → Nat} (a : Nat) (G : XG) (G6 : XG) (p0 : Int32)
    (ha : K a = 13)
    (m0 : 0 ≤ ((G.1 a 7).toInt) ∧ ((G.1 a 7).toInt) ≤ 8)
    (t6 : ((G6.1 a 20).toInt) = -2147483648 ∧ ((G6.1 a 21).toInt) = -2147483648 ∧ ((G6.1 a 23).toInt) = 0)
    (f33 : ((G.1 a 6).toInt) = 0 ∨ ((G.1 a 6).toInt) = 1)
    (c13 : ¬ (((G.1 a 6).toInt) ≠ 0))
    (c_G6_F_a_1 : G6.2.1 (F a 1) = G.2.1 (F a 1))
    (d_G6_a_7 : G6.1 a 7 = G.1 a 7) :
    (((G.1 a 6).toInt) = 0 ∧ (-3 : Int) = -3 ∧ (G6.2.1 (F a 1) = (G.2.1 (F a 1)) ∧ ((G6.1 a 7).toInt) = ((G.1 a 7).toInt))) ∨ (((G.1 a 6).toInt) ≠ 0 ∧ ¬ (0 ≤ p0.toInt ∧ p0.toInt < ((G.1 a 7).toInt)) ∧ (-3 : Int) = -2 ∧ (G6.2.1 (F a 1) = (G.2.1 (F a 1)) ∧ ((G6.1 a 7).toInt) = ((G.1 a 7).toInt))) ∨ (((G.1 a 6).toInt) ≠ 0 ∧ (0 ≤ p0.toInt ∧ p0.toInt < ((G.1 a 7).toInt)) ∧ ((PFl (G.2.1 (F a 10)) (mw (G.2.1 (F a 3)) (360 * p0.toInt)) ∧ (-3 : Int) = -5 ∧ (G6.2.1 (F a 1) = (G.2.1 (F a 1)) ∧ ((G6.1 a 7).toInt) = ((G.1 a 7).toInt))) ∨ (¬ PFl (G.2.1 (F a 10)) (mw (G.2.1 (F a 3)) (360 * p0.toInt)) ∧ mw (G6.2.1 (F a 1)) 0 = (mw (G.2.1 (F a 3)) (360 * p0.toInt)) ∧ ((G6.1 a 7).toInt) = p0.toInt + 1 ∧ (-3 : Int) = (((fuO (G.2.1 (F a 10)) (mw (G6.2.1 (F a 1)) 0) (mw (G.2.1 (F a 2)) 0) 1).length : Nat) : Int)))) := by
  exact Or.inl ⟨by omega, rfl, by rw [c_G6_F_a_1], by rw [d_G6_a_7]⟩
theorem v_X11_back_18_27 {F : Nat → Nat → Nat} (a : Nat) (G : XG) (G6 : XG)
    (hM : RM (G.2.1 (F a 1)) (0))
    (c_G6_F_a_1 : G6.2.1 (F a 1) = G.2.1 (F a 1)) :
    RM (G6.2.1 (F a 1)) 0 := by
  rw [c_G6_F_a_1]; exact hM
theorem z_X11_back_1 (a0 : Int) (h0 : -2147483648 ≤ a0 ∧ a0 < 2147483648) : ¬ (2147483648 - a0 < ((0 : Nat) : Int)) := by omega
theorem z_X11_back_2 (a0 : Int) (a1 : Int) (a2 : Int) (a3 : Int) (a4 : Int) (h0 : 0 ≤ a4 ∧ a4 ≤ 8) (h1 : (a3 ≠ 0 ∧ 0 ≤ a0 ∧ a0 ≤ a4 - 1 ∧ a2 = 1) ∨ (¬ (a3 ≠ 0 ∧ 0 ≤ a0 ∧ a0 ≤ a4 - 1) ∧ a2 = 0)) (h2 : a2 ≠ 0) (h3 : a1 = ((360 : Int) * a0) ∨ ((360 : Int) * a0) < -2147483648 ∨ 2147483648 ≤ ((360 : Int) * a0)) : a1 = ((360 : Int) * a0) := by omega
theorem z_X11_back_3 (a0 : Int) (a1 : Int) (a2 : Int) (a3 : Int) (h0 : 0 ≤ a3 ∧ a3 ≤ 8) (h1 : (a2 ≠ 0 ∧ 0 ≤ a0 ∧ a0 ≤ a3 - 1 ∧ a1 = 1) ∨ (¬ (a2 ≠ 0 ∧ 0 ≤ a0 ∧ a0 ≤ a3 - 1) ∧ a1 = 0)) (h2 : a1 ≠ 0) : 0 ≤ ((360 : Int) * a0) ∧ ((360 : Int) * a0) ≤ 2520 := by omega
theorem z_X11_back_4 (a0 : Int) (a1 : Int) (a2 : Int) (a3 : Int) (a4 : Int) (h0 : 0 ≤ a4 ∧ a4 ≤ 8) (h1 : (a3 ≠ 0 ∧ 0 ≤ a0 ∧ a0 ≤ a4 - 1 ∧ a2 = 1) ∨ (¬ (a3 ≠ 0 ∧ 0 ≤ a0 ∧ a0 ≤ a4 - 1) ∧ a2 = 0)) (h2 : a2 ≠ 0) (h3 : a1 = (a0 + (1 : Int)) ∨ (a0 + (1 : Int)) < -2147483648 ∨ 2147483648 ≤ (a0 + (1 : Int))) : a1 = (a0 + (1 : Int)) := by omega
theorem z_X11_back_5 (a0 : Int) (a1 : Int) (a2 : Int) (h0 : a0 = -2147483648 ∧ a1 = -2147483648 ∧ a2 = 0) : (0 ≤ a2 ∧ a2 ≤ 24) := by omega
theorem z_X11_back_6 (a0 : Int) (a1 : Int) (h0 : 0 ≤ a1 ∧ a1 ≤ 12) (h1 : 0 ≤ a0 ∧ a0 ≤ a1) (h2 : ¬ (a1 ≤ a0)) : 0 ≤ a0 ∧ a0 < ((12 : Nat) : Int) := by omega
theorem z_X11_back_7 (a0 : Int) (a1 : Int) (h0 : 0 ≤ a0 ∧ a0 ≤ a1) (h1 : ¬ (a1 ≤ a0)) : 0 ≤ a0 ∧ a0 < a1 := by omega
theorem z_X11_back_8 (a0 : Int) (h0 : 0 ≤ a0) (h1 : a0 ≤ 11) : 0 ≤ a0 ∧ a0 ≤ 11 := by omega
theorem z_X11_back_11 (a0 : Int) (a1 : Int) (a2 : Int) (h0 : 0 ≤ a2 ∧ a2 ≤ 12) (h1 : 0 ≤ a0 ∧ a0 ≤ a2) (h2 : a1 = (a0 + 1) ∨ (a0 + 1) < -2147483648 ∨ 2147483648 ≤ (a0 + 1)) : a1 = (a0 + 1) := by omega
theorem z_X11_back_12 (a0 : Int) (a1 : Int) (h0 : 0 ≤ a0 ∧ a0 ≤ a1) (h1 : ¬ (a1 ≤ a0)) : 0 ≤ (a0 + 1) ∧ (a0 + 1) ≤ a1 := by omega
theorem z_X11_back_13 (a0 : Int) (a1 : Int) (h0 : 0 ≤ a0 ∧ a0 ≤ a1) : (0 : Int) ≤ (a0 + 1) := by omega
theorem z_X11_back_14 (a0 : Int) (a1 : Nat) (h0 : 2147483648 - a0 < ((a1 + 1 : Nat) : Int)) : 2147483648 - (a0 + 1) < ((a1 : Nat) : Int) := by omega
theorem z_X11_back_20 (a0 : Int) (a1 : Int) (a2 : Int) (a3 : Int) (a4 : Int) (h0 : 0 ≤ a4 ∧ a4 ≤ 8) (h1 : (a3 ≠ 0 ∧ 0 ≤ a0 ∧ a0 ≤ a4 - 1 ∧ a1 = 1) ∨ (¬ (a3 ≠ 0 ∧ 0 ≤ a0 ∧ a0 ≤ a4 - 1) ∧ a1 = 0)) (h2 : a1 ≠ 0) (h3 : a2 = ((360 : Int) * a0) ∨ ((360 : Int) * a0) < -2147483648 ∨ 2147483648 ≤ ((360 : Int) * a0)) : a2 = ((360 : Int) * a0) := by omega
theorem z_X11_back_24 (a0 : Int) (a1 : Int) (a2 : Int) (h0 : a1 ≤ a0 ∧ a0 ≤ a2 + 1) (h1 : ¬ (a2 < a0)) : a1 ≤ a0 ∧ a0 ≤ a2 := by omega
theorem z_X11_back_25 (a0 : Int) (a1 : Int) (a2 : Int) (a3 : Int) (a4 : Int) (h0 : ((a2 = 2 ∨ a2 = 4 ∨ a2 = 5) ∧ a3 = 0 ∧ a4 = 29) ∨ (¬ (a2 = 2 ∨ a2 = 4 ∨ a2 = 5) ∧ a3 = -99 ∧ a4 = 99)) (h1 : ¬ (a4 < a0)) (h2 : a1 = (a0 + 1) ∨ (a0 + 1) < -2147483648 ∨ 2147483648 ≤ (a0 + 1)) (h3 : -2147483648 ≤ a0 ∧ a0 < 2147483648) : a1 = (a0 + 1) := by omega
theorem z_X11_back_26 (a0 : Int) (a1 : Int) (a2 : Int) (h0 : a1 ≤ a0 ∧ a0 ≤ a2 + 1) (h1 : ¬ (a2 < a0)) : a1 ≤ (a0 + 1) ∧ (a0 + 1) ≤ a2 + 1 := by omega
theorem z_X11_back_29 (a0 : Int) (a1 : Int) (a2 : Int) (a3 : Int) (h0 : ((a1 = 2 ∨ a1 = 4 ∨ a1 = 5) ∧ a2 = 0 ∧ a3 = 29) ∨ (¬ (a1 = 2 ∨ a1 = 4 ∨ a1 = 5) ∧ a2 = -99 ∧ a3 = 99)) (h1 : a2 ≤ a0 ∧ a0 ≤ a3 + 1) (h2 : ¬ (a3 < a0)) : -99 ≤ a0 ∧ a0 ≤ 99 := by omega
theorem z_X11_back_30 (a0 : Int) (a1 : Int) (a2 : Int) (a3 : Int) (a4 : Int) (h0 : a1 = a4 ∧ a2 = a0 ∧ 0 ≤ a3 ∧ a3 ≤ 24) : (0 ≤ a3 ∧ a3 ≤ 24) := by omega
theorem z_X11_back_31 (a0 : Int) (a1 : Int) (a2 : Int) (h0 : ((a0 = 2 ∨ a0 = 4 ∨ a0 = 5) ∧ a1 = 0 ∧ a2 = 29) ∨ (¬ (a0 = 2 ∨ a0 = 4 ∨ a0 = 5) ∧ a1 = -99 ∧ a2 = 99)) : a1 ≤ a1 ∧ a1 ≤ a2 + 1 := by omega
theorem z_X11_back_32 (a0 : Int) (a1 : Int) (a2 : Int) (h0 : ((a0 = 2 ∨ a0 = 4 ∨ a0 = 5) ∧ a1 = 0 ∧ a2 = 29) ∨ (¬ (a0 = 2 ∨ a0 = 4 ∨ a0 = 5) ∧ a1 = -99 ∧ a2 = 99)) : 2147483648 - a1 < ((4294967297 : Nat) : Int) := by omega
theorem z_X11_back_33 (a0 : Int) (h0 : 0 ≤ a0 ∧ a0 ≤ 12) : 0 ≤ (0 : Int) ∧ (0 : Int) ≤ a0 := by omega
abbrev rm_X11_back : Room := { frames := 6, cells := 0, slots := 0, locals := 142 }
set_option maxHeartbeats 4000000 in
set_option maxRecDepth 100000 in
theorem c_X11_back (l : Launch) (E : XE) (K : Nat → Nat) (F : Nat → Nat → Nat) (G : XG) (a : Nat) (p0 : Int32) (ha : K a = 13) (m0 : 0 ≤ ((G.1 a 7).toInt) ∧ ((G.1 a 7).toInt) ≤ 8) (hR : RV (G.2.1 (F a 10))) (hM : RM (G.2.1 (F a 1)) (0)) (hB : RM (G.2.1 (F a 2)) 0) (hmk : ∀ m : Int, 0 ≤ m → m < ((G.1 a 7).toInt) → RM (G.2.1 (F a 3)) (360 * m)) : Met l yX11_back (xw yX11_back cX11_back 5 (some .int)) rm_X11_back (va_Pc [.ref a, .int p0] (XP E K F G)) (XQ E (fun v (u : XG) => ∃ r : Int32, v = .int r ∧ XFr [(a, 16), (a, 19), (a, 20), (a, 21), (a, 23), (a, 0), (a, 7)] [F a 15, F a 17, F a 18, F a 11, F a 13, F a 22, F a 12, F a 1, F a 8] [] G u ∧ ((0 ≤ ((u.1 a 23).toInt) ∧ ((u.1 a 23).toInt) ≤ 24)) ∧ ((((G.1 a 6).toInt) = 0 ∧ r.toInt = -3 ∧ (u.2.1 (F a 1) = (G.2.1 (F a 1)) ∧ ((u.1 a 7).toInt) = ((G.1 a 7).toInt))) ∨ (((G.1 a 6).toInt) ≠ 0 ∧ ¬ (0 ≤ p0.toInt ∧ p0.toInt < ((G.1 a 7).toInt)) ∧ r.toInt = -2 ∧ (u.2.1 (F a 1) = (G.2.1 (F a 1)) ∧ ((u.1 a 7).toInt) = ((G.1 a 7).toInt))) ∨ (((G.1 a 6).toInt) ≠ 0 ∧ (0 ≤ p0.toInt ∧ p0.toInt < ((G.1 a 7).toInt)) ∧ ((PFl (G.2.1 (F a 10)) (mw (G.2.1 (F a 3)) (360 * p0.toInt)) ∧ r.toInt = -5 ∧ (u.2.1 (F a 1) = (G.2.1 (F a 1)) ∧ ((u.1 a 7).toInt) = ((G.1 a 7).toInt))) ∨ (¬ PFl (G.2.1 (F a 10)) (mw (G.2.1 (F a 3)) (360 * p0.toInt)) ∧ mw (u.2.1 (F a 1)) 0 = (mw (G.2.1 (F a 3)) (360 * p0.toInt)) ∧ ((u.1 a 7).toInt) = p0.toInt + 1 ∧ r.toInt = (((fuO (G.2.1 (F a 10)) (mw (u.2.1 (F a 1)) 0) (mw (G.2.1 (F a 2)) 0) 1).length : Nat) : Int))))) ∧ (RM (u.2.1 (F a 1)) 0)) (fun u H => TW E K F u H)) 0 0 (xA E) := by
  refine x_enter (by decide) (Nat.le_of_ble_eq_true rfl) ?_
  intro p e s m args below meth c Q S hr hlk hnm hQ hP ls hl
  obtain ⟨hz, hK, hT⟩ := hP
  obtain ⟨hx, hb, -, -, -⟩ := id S
  obtain ⟨H, hT, hS, hgo⟩ : ∃ H : Heap, TW E K F G H ∧ va_S (xA E) s.heap H [] ∧ H = s.heap := ⟨_, hT, va_S.rf, rfl⟩
  rw [← hgo]
  have hl : lv_has ls 5 [(0, .ref a), (1, .int p0)] := hl
  obtain ⟨hk9999, hj9999⟩ := fkX11_15 hT ha
  obtain ⟨hk9999a, hj9999a⟩ := fkX11_17 hT ha
  obtain ⟨hk9999b, hj9999b⟩ := fkX11_18 hT ha
  obtain ⟨hk9999c, hj9999c⟩ := fkX11_11 hT ha
  obtain ⟨hk9999d, hj9999d⟩ := fkX11_13 hT ha
  obtain ⟨hk9999e, hj9999e⟩ := fkX11_22 hT ha
  obtain ⟨hk9999f, hj9999f⟩ := fkX11_12 hT ha
  obtain ⟨hk9999g, hj9999g⟩ := fkX11_1 hT ha
  obtain ⟨hk9999h, hj9999h⟩ := fkX11_8 hT ha
  obtain ⟨hk9999i, hj9999i⟩ := fkX11_10 hT ha
  obtain ⟨hk9999j, hj9999j⟩ := fkX11_2 hT ha
  obtain ⟨hk9999k, hj9999k⟩ := fkX11_3 hT ha
  refine lv_aload_n hx hb dX11_back_0 rfl (lv_at hl 0 rfl) ?_
  refine lv_iconst (v := 0) hx hb dX11_back_1 (by decide) ?_
  refine pX11_0 (v := 0) S hK hT hS ha kf_X11_134 dX11_back_2 (fun H locs hT hS => ?_)
  obtain ⟨G2, hG2⟩ : ∃ GG : XG, GG = dput G a 0 0 := ⟨_, rfl⟩
  rw [← hG2] at hT
  refine lv_aload_n hx hb dX11_back_5 rfl (lv_at hl 0 rfl) ?_
  refine x_cv0 (x_runV (b := a) (As := []) (rest := []) S (c_X11_nothing l E K F G2 a ha) mv_X11_nothing km_X11_231 rfl rfl ⟨Nat.le_of_ble_eq_true rfl, Nat.le_of_ble_eq_true rfl⟩ (rc_13 hK hT ha) hK (fun _ => XP.blind) (fun U hU hW => XP.at hK hz hS hT hU hW) rfl hl.1 (Nat.le_of_ble_eq_true rfl) dX11_back_6 ⟨Nat.le_of_ble_eq_true rfl, Nat.le_of_ble_eq_true rfl⟩) hS ?_
  rintro G6 H locs ⟨hF6, t6⟩ hT hS
  have t6 : ((G6.1 a 20).toInt) = -2147483648 ∧ ((G6.1 a 21).toInt) = -2147483648 ∧ ((G6.1 a 23).toInt) = 0 := t6
  refine lv_aload_n hx hb dX11_back_9 rfl (lv_at hl 0 rfl) ?_
  refine gX11_6 S hK hT ha kf_X11_206 dX11_back_10 (v := (G.1 a 6)) ((hF6.1 _ _ (xnj (by decide) (xnj (by decide) (xnj (by decide) xn0)))).trans (ld_j hG2 (by decide))) (fun hz10 => ?_)
  refine xi_zne (tgt := 19) hx hb (rfl : Int32.toInt (G.1 a 6) = ((G.1 a 6).toInt)) dX11_back_13 (by decide) (fun c13 => ?_) (fun c13 => ?_)
  · refine lv_aload_n hx hb dX11_back_19 rfl (lv_at hl 0 rfl) ?_
    refine lv_iload_n hx hb dX11_back_20 rfl (lv_at hl 1 rfl) ?_
    refine x_clp (x_runV (b := a) (As := [.int p0]) (rest := []) S (c_X11_isMark l E K F G6 H a p0 ha) mv_X11_isMark km_X11_382 rfl rfl ⟨Nat.le_of_ble_eq_true rfl, Nat.le_of_ble_eq_true rfl⟩ (rc_13 hK hT ha) hK (fun _ => XPh.blind) (fun U hU hW => XPh.at hK hz hS hT hU hW) rfl hl.1 (Nat.le_of_ble_eq_true rfl) dX11_back_21 ⟨Nat.le_of_ble_eq_true rfl, Nat.le_of_ble_eq_true rfl⟩) hS ?_
    rintro _ _ locs ⟨x21, rfl, b21, t21⟩ hS
    have t21 : (((G.1 a 6).toInt) ≠ 0 ∧ 0 ≤ p0.toInt ∧ p0.toInt ≤ ((G.1 a 7).toInt) - 1 ∧ x21.toInt = 1) ∨ (¬ (((G.1 a 6).toInt) ≠ 0 ∧ 0 ≤ p0.toInt ∧ p0.toInt ≤ ((G.1 a 7).toInt) - 1) ∧ x21.toInt = 0) := by rw [(show (G6.1 a 6).toInt = ((G.1 a 6).toInt) from (congrArg Int32.toInt ((hF6.1 _ _ (xnj (by decide) (xnj (by decide) (xnj (by decide) xn0)))).trans (ld_j hG2 (by decide)))).trans (rfl : Int32.toInt (G.1 a 6) = ((G.1 a 6).toInt)))] at t21; rw [(show (G6.1 a 7).toInt = ((G.1 a 7).toInt) from (congrArg Int32.toInt ((hF6.1 _ _ (xnj (by decide) (xnj (by decide) (xnj (by decide) xn0)))).trans (ld_j hG2 (by decide)))).trans (rfl : Int32.toInt (G.1 a 7) = ((G.1 a 7).toInt)))] at t21; exact t21
    refine xi_zne (tgt := 30) hx hb (rfl : Int32.toInt x21 = x21.toInt) dX11_back_24 (by decide) (fun c24 => ?_) (fun c24 => ?_)
    · refine lv_aload_n hx hb dX11_back_30 rfl (lv_at hl 0 rfl) ?_
      refine x_cv0 (x_runV (b := a) (As := []) (rest := []) S (c_X11_layOrder l E K F G6 a ha (v_X11_back_31_1 (F := F) a G G6 hR ((hF6.2.1 _ xn0).trans (ld_c hG2)))) mv_X11_layOrder km_X11_200 rfl rfl ⟨Nat.le_of_ble_eq_true rfl, Nat.le_of_ble_eq_true rfl⟩ (rc_13 hK hT ha) hK (fun _ => XP.blind) (fun U hU hW => XP.at hK hz hS hT hU hW) rfl hl.1 (Nat.le_of_ble_eq_true rfl) dX11_back_31 ⟨Nat.le_of_ble_eq_true rfl, Nat.le_of_ble_eq_true rfl⟩) hS ?_
      rintro G31 H locs ⟨hF31, oq31, oq31a⟩ hT hS
      have oq31 : ORm (G.2.1 (F a 10)) (G31.2.1 (F a 15)) ((G31.1 a 16).toInt) 12 := by simp only [(show G6.2.1 (F a 10) = G.2.1 (F a 10) from ((hF6.2.1 _ xn0).trans (ld_c hG2)))] at oq31; exact oq31
      have z34 : 0 ≤ ((G31.1 a 16).toInt) ∧ ((G31.1 a 16).toInt) ≤ 12 := by have h9 := ordN_le (prM (G.2.1 (F a 10))) (rkM (G.2.1 (F a 10))) 12; rw [oq31.1]; omega
      refine lv_iconst (v := 0) hx hb dX11_back_34 (by decide) ?_
      refine lv_istore_n (lv' := [(2, .int 0), (0, .ref a), (1, .int p0)]) hx hb dX11_back_35 rfl hl (by decide) rfl (fun ls hl => ?_)
      have L36 : ∀ (N36 : Nat) (l2_36 : Int32) (H : Heap) (locs : List Loc) (ls : Array Slot), (∀ j : Int, 0 ≤ j → j < l2_36.toInt → (aI (G.2.1 (F a 10)) (10 * aI (G31.2.1 (F a 15)) j + 6) = 0 → ∀ s : Int, sbj (aI (G.2.1 (F a 10)) (10 * aI (G31.2.1 (F a 15)) j + 0)) s → fzq (G.2.1 (F a 10)) (mw (G.2.1 (F a 3)) (360 * p0.toInt)) (aI (G31.2.1 (F a 15)) j) s = 0)) → 0 ≤ l2_36.toInt ∧ l2_36.toInt ≤ ((G31.1 a 16).toInt) → (0 : Int) ≤ l2_36.toInt → 2147483648 - l2_36.toInt < ((N36 : Nat) : Int) → TW E K F G31 H → va_S (xA E) s.heap H locs → lv_has ls 5 [(0, .ref a), (1, .int p0), (2, .int l2_36)] → W p l e rm_X11_back s m args below meth c H locs 0 0 Q (F0 m 36 ls []) := by
        intro N36
        induction N36 with
        | zero =>
          intro l2_36 H locs ls pk I36_0 I36_1 hm36
          exact absurd hm36 (z_X11_back_1 l2_36.toInt (xr l2_36))
        | succ N36 ih36 =>
          intro l2_36 H locs ls pk I36_0 I36_1 hm36 hT hS hl
          refine lv_iload_n hx hb dX11_back_36 rfl (lv_at hl 2 rfl) ?_
          refine lv_aload_n hx hb dX11_back_37 rfl (lv_at hl 0 rfl) ?_
          refine gX11_16 S hK hT ha kf_X11_197 dX11_back_38 (v := (G31.1 a 16)) rfl (?_)
          refine xi_cge (tgt := 119) hx hb (rfl : Int32.toInt l2_36 = l2_36.toInt) (rfl : Int32.toInt (G31.1 a 16) = ((G31.1 a 16).toInt)) dX11_back_41 (by decide) (fun c41 => ?_) (fun c41 => ?_)
          · refine lv_aload_n hx hb dX11_back_119 rfl (lv_at hl 0 rfl) ?_
            refine lv_aload_n hx hb dX11_back_120 rfl (lv_at hl 0 rfl) ?_
            refine gX11_12 S hK hT ha kf_X11_39 dX11_back_121 (fun _ _ => ?_)
            refine lv_aload_n hx hb dX11_back_124 rfl (lv_at hl 0 rfl) ?_
            refine gX11_1 S hK hT ha kf_X11_9 dX11_back_125 (fun _ _ => ?_)
            refine lv_iconst (v := 0) hx hb dX11_back_128 (by decide) ?_
            refine x_cv0 (x_runV (b := a) (As := [.ref (F a 12), .ref (F a 1), .int 0]) (rest := []) S (c_X11_layStates l E K F G31 a (F a 12) (F a 1) 0 ha hk9999f (XO.a hk9999g (by decide)) (v_X11_back_129_2 (F := F) a G G31 hR ((hF31.2.1 _ (xn1 (xne_k hk9999i hk9999 (by decide)) xn0)).trans ((hF6.2.1 _ xn0).trans (ld_c hG2)))) (v_X11_back_129_3 (F := F) a G G31 hM hB ((hF31.2.1 _ (xn1 (xne_k hk9999g hk9999 (by decide)) xn0)).trans ((hF6.2.1 _ xn0).trans (ld_c hG2))))) mv_X11_layStates km_X11_210 rfl rfl ⟨Nat.le_of_ble_eq_true rfl, Nat.le_of_ble_eq_true rfl⟩ (rc_13 hK hT ha) hK (fun _ => XP.blind) (fun U hU hW => XP.at hK hz hS hT hU hW) rfl hl.1 (Nat.le_of_ble_eq_true rfl) dX11_back_129 ⟨Nat.le_of_ble_eq_true rfl, Nat.le_of_ble_eq_true rfl⟩) hS ?_
            rintro G129 H locs ⟨hF129, oq129, oq129a⟩ hT hS
            have oq129 : LSt (G.2.1 (F a 10)) (G129.2.1 (F a 12)) (mw (G.2.1 (F a 1)) (0 : Int)) 12 := by simp only [(show G31.2.1 (F a 10) = G.2.1 (F a 10) from ((hF31.2.1 _ (xn1 (xne_k hk9999i hk9999 (by decide)) xn0)).trans ((hF6.2.1 _ xn0).trans (ld_c hG2)))), (show G31.2.1 (F a 1) = G.2.1 (F a 1) from ((hF31.2.1 _ (xn1 (xne_k hk9999g hk9999 (by decide)) xn0)).trans ((hF6.2.1 _ xn0).trans (ld_c hG2))))] at oq129; exact oq129
            refine lv_aload_n hx hb dX11_back_132 rfl (lv_at hl 0 rfl) ?_
            refine gX11_3 S hK hT ha kf_X11_18 dX11_back_133 (fun _ _ => ?_)
            refine lv_sipush (v := 360) hx hb dX11_back_136 (by decide) ?_
            refine lv_iload_n hx hb dX11_back_139 rfl (lv_at hl 1 rfl) ?_
            refine xi_imul hx hb ((by decide) : Int32.toInt 360 = (360 : Int)) (rfl : Int32.toInt p0 = p0.toInt) dX11_back_140 (fun x140 t140 => ?_)
            have e140 : x140.toInt = ((360 : Int) * p0.toInt) := (z_X11_back_2 p0.toInt x140.toInt x21.toInt ((G.1 a 6).toInt) ((G.1 a 7).toInt) m0 t21 c24 t140)
            refine lv_aload_n hx hb dX11_back_141 rfl (lv_at hl 0 rfl) ?_
            refine gX11_1 S hK hT ha kf_X11_9 dX11_back_142 (fun _ _ => ?_)
            refine lv_iconst (v := 0) hx hb dX11_back_145 (by decide) ?_
            refine x_cv0 (x_runS (As := [.ref (F a 3), .int x140, .ref (F a 1), .int 0]) (rest := []) S (c_X11_copy l E K F G129 (F a 3) x140 (F a 1) 0 (XO.c hk9999k (by rw [(e140 : Int32.toInt x140 = ((360 : Int) * p0.toInt))] <;> exact (z_X11_back_3 p0.toInt x21.toInt ((G.1 a 6).toInt) ((G.1 a 7).toInt) m0 t21 c24))) (XO.a hk9999g (by decide)) (v_X11_back_146_4 (K := K) (F := F) a G2 G G6 G31 G129 l2_36 p0 x140 x21 N36 ha hk9999 hj9999 hk9999a hj9999a hk9999b hj9999b hk9999c hj9999c hk9999d hj9999d hk9999e hj9999e hk9999f hj9999f hk9999g hj9999g hk9999h hj9999h hk9999i hj9999i hk9999j hj9999j hk9999k hj9999k hG2 hF6 hF31 hF129 hR hM hB hmk oq31 oq31a pk oq129 oq129a e140 m0 t6 (xzi hz10) c13 t21 c24 z34 I36_0 I36_1 hm36 c41 ((hF129.2.1 _ (xn1 (xne_k hk9999g hk9999f (by decide)) xn0)).trans ((hF31.2.1 _ (xn1 (xne_k hk9999g hk9999 (by decide)) xn0)).trans ((hF6.2.1 _ xn0).trans (ld_c hG2)))) ((hF129.2.1 _ (xn1 (xne_j hj9999c hj9999f (by first | decide | omega)) xn0)).trans ((hF31.2.1 _ (xn1 (xne_k hk9999c hk9999 (by decide)) xn0)).trans ((hF6.2.1 _ xn0).trans (ld_c hG2)))) ((hF129.2.1 _ (xn1 (xne_j hj9999d hj9999f (by first | decide | omega)) xn0)).trans ((hF31.2.1 _ (xn1 (xne_k hk9999d hk9999 (by decide)) xn0)).trans ((hF6.2.1 _ xn0).trans (ld_c hG2)))) (hF129.2.1 _ (xn1 (xne_k hk9999 hk9999f (by decide)) xn0)) ((hF129.2.1 _ (xn1 (xne_k hk9999a hk9999f (by decide)) xn0)).trans ((hF31.2.1 _ (xn1 (xne_k hk9999a hk9999 (by decide)) xn0)).trans ((hF6.2.1 _ xn0).trans (ld_c hG2)))) ((hF129.2.1 _ (xn1 (xne_k hk9999b hk9999f (by decide)) xn0)).trans ((hF31.2.1 _ (xn1 (xne_k hk9999b hk9999 (by decide)) xn0)).trans ((hF6.2.1 _ xn0).trans (ld_c hG2)))) ((hF129.2.1 _ (xn1 (xne_k hk9999e hk9999f (by decide)) xn0)).trans ((hF31.2.1 _ (xn1 (xne_k hk9999e hk9999 (by decide)) xn0)).trans ((hF6.2.1 _ xn0).trans (ld_c hG2)))) ((hF129.2.1 _ (xn1 (xne_k hk9999k hk9999f (by decide)) xn0)).trans ((hF31.2.1 _ (xn1 (xne_k hk9999k hk9999 (by decide)) xn0)).trans ((hF6.2.1 _ xn0).trans (ld_c hG2)))) ((hF129.2.1 _ (xn1 (xne_k hk9999h hk9999f (by decide)) xn0)).trans ((hF31.2.1 _ (xn1 (xne_k hk9999h hk9999 (by decide)) xn0)).trans ((hF6.2.1 _ xn0).trans (ld_c hG2)))) ((hF31.2.1 _ (xn1 (xne_k hk9999k hk9999 (by decide)) xn0)).trans ((hF6.2.1 _ xn0).trans (ld_c hG2))) ((hF6.2.1 _ xn0).trans (ld_c hG2)) ((hF129.1 _ _ xn0).trans ((hF31.1 _ _ (xnj (by decide) xn0)).trans ((hF6.1 _ _ (xnj (by decide) (xnj (by decide) (xnj (by decide) xn0)))).trans (ld_at hG2)))) (hF129.1 _ _ xn0) ((hF129.1 _ _ xn0).trans ((hF31.1 _ _ (xnj (by decide) xn0)).trans ((hF6.1 _ _ (xnj (by decide) (xnj (by decide) (xnj (by decide) xn0)))).trans (ld_j hG2 (by decide))))) ((hF129.1 _ _ xn0).trans (hF31.1 _ _ (xnj (by decide) xn0))) ((hF129.1 _ _ xn0).trans (hF31.1 _ _ (xnj (by decide) xn0))) ((hF129.1 _ _ xn0).trans (hF31.1 _ _ (xnj (by decide) xn0))) ((hF129.1 _ _ xn0).trans ((hF31.1 _ _ (xnj (by decide) xn0)).trans ((hF6.1 _ _ (xnj (by decide) (xnj (by decide) (xnj (by decide) xn0)))).trans (ld_j hG2 (by decide))))) ((hF6.1 _ _ (xnj (by decide) (xnj (by decide) (xnj (by decide) xn0)))).trans (ld_j hG2 (by decide))))) ms_X11_copy km_X11_309 rfl rfl ⟨Nat.le_of_ble_eq_true rfl, Nat.le_of_ble_eq_true rfl⟩ hK (fun _ => XP.blind) (fun U hU hW => XP.at hK hz hS hT hU hW) rfl hl.1 (Nat.le_of_ble_eq_true rfl) dX11_back_146 ⟨Nat.le_of_ble_eq_true rfl, Nat.le_of_ble_eq_true rfl⟩) hS ?_
            rintro G146 H locs ⟨hF146, oq146⟩ hT hS
            have oq146 : CPd (G129.2.1 (F a 3)) (G129.2.1 (F a 1)) (G146.2.1 (F a 1)) ((360 : Int) * p0.toInt) (0 : Int) 360 := by simp only [(e140 : Int32.toInt x140 = ((360 : Int) * p0.toInt))] at oq146; exact oq146
            refine lv_aload_n hx hb dX11_back_149 rfl (lv_at hl 0 rfl) ?_
            refine lv_aload_n hx hb dX11_back_150 rfl (lv_at hl 0 rfl) ?_
            refine gX11_11 S hK hT ha kf_X11_36 dX11_back_151 (fun _ _ => ?_)
            refine lv_aload_n hx hb dX11_back_154 rfl (lv_at hl 0 rfl) ?_
            refine gX11_1 S hK hT ha kf_X11_9 dX11_back_155 (fun _ _ => ?_)
            refine lv_iconst (v := 0) hx hb dX11_back_158 (by decide) ?_
            refine x_cv0 (x_runV (b := a) (As := [.ref (F a 11), .ref (F a 1), .int 0]) (rest := []) S (c_X11_layStates l E K F G146 a (F a 11) (F a 1) 0 ha hk9999c (XO.a hk9999g (by decide)) (v_X11_back_159_5 (F := F) a G G146 hR ((hF146.2.1 _ (xn1 (xne_k hk9999i hk9999g (by decide)) xn0)).trans ((hF129.2.1 _ (xn1 (xne_k hk9999i hk9999f (by decide)) xn0)).trans ((hF31.2.1 _ (xn1 (xne_k hk9999i hk9999 (by decide)) xn0)).trans ((hF6.2.1 _ xn0).trans (ld_c hG2)))))) (v_X11_back_159_6 (K := K) (F := F) a G G6 G31 G129 G146 l2_36 p0 x21 N36 ha hmk oq31a oq129a oq146 m0 t6 (xzi hz10) c13 t21 c24 z34 I36_0 I36_1 hm36 c41 ((hF129.2.1 _ (xn1 (xne_k hk9999k hk9999f (by decide)) xn0)).trans ((hF31.2.1 _ (xn1 (xne_k hk9999k hk9999 (by decide)) xn0)).trans ((hF6.2.1 _ xn0).trans (ld_c hG2)))))) mv_X11_layStates km_X11_210 rfl rfl ⟨Nat.le_of_ble_eq_true rfl, Nat.le_of_ble_eq_true rfl⟩ (rc_13 hK hT ha) hK (fun _ => XP.blind) (fun U hU hW => XP.at hK hz hS hT hU hW) rfl hl.1 (Nat.le_of_ble_eq_true rfl) dX11_back_159 ⟨Nat.le_of_ble_eq_true rfl, Nat.le_of_ble_eq_true rfl⟩) hS ?_
            rintro G159 H locs ⟨hF159, oq159, oq159a⟩ hT hS
            have oq159 : LSt (G.2.1 (F a 10)) (G159.2.1 (F a 11)) (mw (G146.2.1 (F a 1)) (0 : Int)) 12 := by simp only [(show G146.2.1 (F a 10) = G.2.1 (F a 10) from ((hF146.2.1 _ (xn1 (xne_k hk9999i hk9999g (by decide)) xn0)).trans ((hF129.2.1 _ (xn1 (xne_k hk9999i hk9999f (by decide)) xn0)).trans ((hF31.2.1 _ (xn1 (xne_k hk9999i hk9999 (by decide)) xn0)).trans ((hF6.2.1 _ xn0).trans (ld_c hG2))))))] at oq159; exact oq159
            refine lv_aload_n hx hb dX11_back_162 rfl (lv_at hl 0 rfl) ?_
            refine lv_aload_n hx hb dX11_back_163 rfl (lv_at hl 0 rfl) ?_
            refine gX11_13 S hK hT ha kf_X11_42 dX11_back_164 (fun _ _ => ?_)
            refine lv_aload_n hx hb dX11_back_167 rfl (lv_at hl 0 rfl) ?_
            refine gX11_2 S hK hT ha kf_X11_15 dX11_back_168 (fun _ _ => ?_)
            refine lv_iconst (v := 0) hx hb dX11_back_171 (by decide) ?_
            refine x_cv0 (x_runV (b := a) (As := [.ref (F a 13), .ref (F a 2), .int 0]) (rest := []) S (c_X11_layStates l E K F G159 a (F a 13) (F a 2) 0 ha hk9999d (XO.b hk9999j (by decide)) (v_X11_back_172_7 (F := F) a G G159 hR ((hF159.2.1 _ (xn1 (xne_k hk9999i hk9999c (by decide)) xn0)).trans ((hF146.2.1 _ (xn1 (xne_k hk9999i hk9999g (by decide)) xn0)).trans ((hF129.2.1 _ (xn1 (xne_k hk9999i hk9999f (by decide)) xn0)).trans ((hF31.2.1 _ (xn1 (xne_k hk9999i hk9999 (by decide)) xn0)).trans ((hF6.2.1 _ xn0).trans (ld_c hG2))))))) (v_X11_back_172_8 (F := F) a G G159 hM hB ((hF159.2.1 _ (xn1 (xne_k hk9999j hk9999c (by decide)) xn0)).trans ((hF146.2.1 _ (xn1 (xne_k hk9999j hk9999g (by decide)) xn0)).trans ((hF129.2.1 _ (xn1 (xne_k hk9999j hk9999f (by decide)) xn0)).trans ((hF31.2.1 _ (xn1 (xne_k hk9999j hk9999 (by decide)) xn0)).trans ((hF6.2.1 _ xn0).trans (ld_c hG2)))))))) mv_X11_layStates km_X11_210 rfl rfl ⟨Nat.le_of_ble_eq_true rfl, Nat.le_of_ble_eq_true rfl⟩ (rc_13 hK hT ha) hK (fun _ => XP.blind) (fun U hU hW => XP.at hK hz hS hT hU hW) rfl hl.1 (Nat.le_of_ble_eq_true rfl) dX11_back_172 ⟨Nat.le_of_ble_eq_true rfl, Nat.le_of_ble_eq_true rfl⟩) hS ?_
            rintro G172 H locs ⟨hF172, oq172, oq172a⟩ hT hS
            have oq172 : LSt (G.2.1 (F a 10)) (G172.2.1 (F a 13)) (mw (G.2.1 (F a 2)) (0 : Int)) 12 := by simp only [(show G159.2.1 (F a 10) = G.2.1 (F a 10) from ((hF159.2.1 _ (xn1 (xne_k hk9999i hk9999c (by decide)) xn0)).trans ((hF146.2.1 _ (xn1 (xne_k hk9999i hk9999g (by decide)) xn0)).trans ((hF129.2.1 _ (xn1 (xne_k hk9999i hk9999f (by decide)) xn0)).trans ((hF31.2.1 _ (xn1 (xne_k hk9999i hk9999 (by decide)) xn0)).trans ((hF6.2.1 _ xn0).trans (ld_c hG2))))))), (show G159.2.1 (F a 2) = G.2.1 (F a 2) from ((hF159.2.1 _ (xn1 (xne_k hk9999j hk9999c (by decide)) xn0)).trans ((hF146.2.1 _ (xn1 (xne_k hk9999j hk9999g (by decide)) xn0)).trans ((hF129.2.1 _ (xn1 (xne_k hk9999j hk9999f (by decide)) xn0)).trans ((hF31.2.1 _ (xn1 (xne_k hk9999j hk9999 (by decide)) xn0)).trans ((hF6.2.1 _ xn0).trans (ld_c hG2)))))))] at oq172; exact oq172
            refine lv_aload_n hx hb dX11_back_175 rfl (lv_at hl 0 rfl) ?_
            refine lv_aload_n hx hb dX11_back_176 rfl (lv_at hl 0 rfl) ?_
            refine gX11_12 S hK hT ha kf_X11_39 dX11_back_177 (fun _ _ => ?_)
            refine lv_aload_n hx hb dX11_back_180 rfl (lv_at hl 0 rfl) ?_
            refine gX11_11 S hK hT ha kf_X11_36 dX11_back_181 (fun _ _ => ?_)
            refine lv_iconst (v := 2) hx hb dX11_back_184 (by decide) ?_
            refine x_cv0 (x_runV (b := a) (As := [.ref (F a 12), .ref (F a 11), .int 2]) (rest := []) S (c_X11_moves l E K F G172 a (F a 12) (F a 11) 2 ha hk9999f hk9999c (by decide) (v_X11_back_185_9 (F := F) a G G172 hR ((hF172.2.1 _ (xn1 (xne_k hk9999i hk9999d (by decide)) xn0)).trans ((hF159.2.1 _ (xn1 (xne_k hk9999i hk9999c (by decide)) xn0)).trans ((hF146.2.1 _ (xn1 (xne_k hk9999i hk9999g (by decide)) xn0)).trans ((hF129.2.1 _ (xn1 (xne_k hk9999i hk9999f (by decide)) xn0)).trans ((hF31.2.1 _ (xn1 (xne_k hk9999i hk9999 (by decide)) xn0)).trans ((hF6.2.1 _ xn0).trans (ld_c hG2))))))))) mv_X11_moves km_X11_334 rfl rfl ⟨Nat.le_of_ble_eq_true rfl, Nat.le_of_ble_eq_true rfl⟩ (rc_13 hK hT ha) hK (fun _ => XP.blind) (fun U hU hW => XP.at hK hz hS hT hU hW) rfl hl.1 (Nat.le_of_ble_eq_true rfl) dX11_back_185 ⟨Nat.le_of_ble_eq_true rfl, Nat.le_of_ble_eq_true rfl⟩) hS ?_
            rintro G185 H locs hF185 hT hS
            refine lv_aload_n hx hb dX11_back_188 rfl (lv_at hl 0 rfl) ?_
            refine lv_iload_n hx hb dX11_back_189 rfl (lv_at hl 1 rfl) ?_
            refine lv_iconst (v := 1) hx hb dX11_back_190 (by decide) ?_
            refine xi_iadd hx hb (rfl : Int32.toInt p0 = p0.toInt) ((by decide) : Int32.toInt 1 = (1 : Int)) dX11_back_191 (fun x191 t191 => ?_)
            have e191 : x191.toInt = (p0.toInt + (1 : Int)) := (z_X11_back_4 p0.toInt x191.toInt x21.toInt ((G.1 a 6).toInt) ((G.1 a 7).toInt) m0 t21 c24 t191)
            refine pX11_7 (v := x191) S hK hT hS ha kf_X11_373 dX11_back_192 (fun H locs hT hS => ?_)
            obtain ⟨G192, hG192⟩ : ∃ GG : XG, GG = dput G185 a 7 x191 := ⟨_, rfl⟩
            rw [← hG192] at hT
            refine lv_aload_n hx hb dX11_back_195 rfl (lv_at hl 0 rfl) ?_
            refine x_cl0 (x_runV (b := a) (As := []) (rest := []) S (c_X11_queueMany l E K F G192 a ha (v_X11_back_196_10 (F := F) a G G192 hR ((ld_c hG192).trans ((hF185.2.1 _ (xn1 (xne_k hk9999i hk9999h (by decide)) xn0)).trans ((hF172.2.1 _ (xn1 (xne_k hk9999i hk9999d (by decide)) xn0)).trans ((hF159.2.1 _ (xn1 (xne_k hk9999i hk9999c (by decide)) xn0)).trans ((hF146.2.1 _ (xn1 (xne_k hk9999i hk9999g (by decide)) xn0)).trans ((hF129.2.1 _ (xn1 (xne_k hk9999i hk9999f (by decide)) xn0)).trans ((hF31.2.1 _ (xn1 (xne_k hk9999i hk9999 (by decide)) xn0)).trans ((hF6.2.1 _ xn0).trans (ld_c hG2)))))))))) (v_X11_back_196_11 (K := K) (F := F) a G G6 G31 G129 G146 G159 G172 G192 l2_36 p0 x21 N36 ha hmk oq31a oq129a oq146 oq159a oq172a m0 t6 (xzi hz10) c13 t21 c24 z34 I36_0 I36_1 hm36 c41 ((hF129.2.1 _ (xn1 (xne_k hk9999k hk9999f (by decide)) xn0)).trans ((hF31.2.1 _ (xn1 (xne_k hk9999k hk9999 (by decide)) xn0)).trans ((hF6.2.1 _ xn0).trans (ld_c hG2)))) ((ld_c hG192).trans ((hF185.2.1 _ (xn1 (xne_k hk9999g hk9999h (by decide)) xn0)).trans ((hF172.2.1 _ (xn1 (xne_k hk9999g hk9999d (by decide)) xn0)).trans (hF159.2.1 _ (xn1 (xne_k hk9999g hk9999c (by decide)) xn0)))))) (v_X11_back_196_12 (F := F) a G G192 hM hB ((ld_c hG192).trans ((hF185.2.1 _ (xn1 (xne_k hk9999j hk9999h (by decide)) xn0)).trans ((hF172.2.1 _ (xn1 (xne_k hk9999j hk9999d (by decide)) xn0)).trans ((hF159.2.1 _ (xn1 (xne_k hk9999j hk9999c (by decide)) xn0)).trans ((hF146.2.1 _ (xn1 (xne_k hk9999j hk9999g (by decide)) xn0)).trans ((hF129.2.1 _ (xn1 (xne_k hk9999j hk9999f (by decide)) xn0)).trans ((hF31.2.1 _ (xn1 (xne_k hk9999j hk9999 (by decide)) xn0)).trans ((hF6.2.1 _ xn0).trans (ld_c hG2))))))))))) mv_X11_queueMany km_X11_379 rfl rfl ⟨Nat.le_of_ble_eq_true rfl, Nat.le_of_ble_eq_true rfl⟩ (rc_13 hK hT ha) hK (fun _ => XP.blind) (fun U hU hW => XP.at hK hz hS hT hU hW) rfl hl.1 (Nat.le_of_ble_eq_true rfl) dX11_back_196 ⟨Nat.le_of_ble_eq_true rfl, Nat.le_of_ble_eq_true rfl⟩) hS ?_
            rintro _ G196 H locs ⟨x196, rfl, hF196, t196, oq196, oq196a⟩ hT hS
            have t196 : 0 ≤ x196.toInt ∧ x196.toInt ≤ 2388 := t196
            have oq196 : pL G196 F a = if ((G.1 a 6).toInt) = 0 then [] else fuO (G.2.1 (F a 10)) (mw (G146.2.1 (F a 1)) 0) (mw (G.2.1 (F a 2)) 0) 1 := by simp only [(show G192.1 a 6 = G.1 a 6 from ((ld_j hG192 (by decide)).trans ((hF185.1 _ _ xn0).trans ((hF172.1 _ _ xn0).trans ((hF159.1 _ _ xn0).trans ((hF146.1 _ _ xn0).trans ((hF129.1 _ _ xn0).trans ((hF31.1 _ _ (xnj (by decide) xn0)).trans ((hF6.1 _ _ (xnj (by decide) (xnj (by decide) (xnj (by decide) xn0)))).trans (ld_j hG2 (by decide))))))))))), (show G192.2.1 (F a 10) = G.2.1 (F a 10) from ((ld_c hG192).trans ((hF185.2.1 _ (xn1 (xne_k hk9999i hk9999h (by decide)) xn0)).trans ((hF172.2.1 _ (xn1 (xne_k hk9999i hk9999d (by decide)) xn0)).trans ((hF159.2.1 _ (xn1 (xne_k hk9999i hk9999c (by decide)) xn0)).trans ((hF146.2.1 _ (xn1 (xne_k hk9999i hk9999g (by decide)) xn0)).trans ((hF129.2.1 _ (xn1 (xne_k hk9999i hk9999f (by decide)) xn0)).trans ((hF31.2.1 _ (xn1 (xne_k hk9999i hk9999 (by decide)) xn0)).trans ((hF6.2.1 _ xn0).trans (ld_c hG2)))))))))), (show G192.2.1 (F a 1) = G146.2.1 (F a 1) from ((ld_c hG192).trans ((hF185.2.1 _ (xn1 (xne_k hk9999g hk9999h (by decide)) xn0)).trans ((hF172.2.1 _ (xn1 (xne_k hk9999g hk9999d (by decide)) xn0)).trans (hF159.2.1 _ (xn1 (xne_k hk9999g hk9999c (by decide)) xn0)))))), (show G192.2.1 (F a 2) = G.2.1 (F a 2) from ((ld_c hG192).trans ((hF185.2.1 _ (xn1 (xne_k hk9999j hk9999h (by decide)) xn0)).trans ((hF172.2.1 _ (xn1 (xne_k hk9999j hk9999d (by decide)) xn0)).trans ((hF159.2.1 _ (xn1 (xne_k hk9999j hk9999c (by decide)) xn0)).trans ((hF146.2.1 _ (xn1 (xne_k hk9999j hk9999g (by decide)) xn0)).trans ((hF129.2.1 _ (xn1 (xne_k hk9999j hk9999f (by decide)) xn0)).trans ((hF31.2.1 _ (xn1 (xne_k hk9999j hk9999 (by decide)) xn0)).trans ((hF6.2.1 _ xn0).trans (ld_c hG2))))))))))] at oq196; exact oq196
            exact x_ri hx hb hr hlk hQ (Nat.le_of_ble_eq_true rfl) (Nat.le_of_ble_eq_true rfl) hS dX11_back_199 G196 ⟨_, rfl, (XFr.call (by rw [hG192]; exact XFr.dput (XFr.call (XFr.call (XFr.call (XFr.call (XFr.call (XFr.call (XFr.call (by rw [hG2]; exact XFr.dput XFr.rf (List.mem_of_getElem? (i := 5) rfl)) hF6 (xm1 2 rfl (xm1 3 rfl (xm1 4 rfl xm0))) xm0 xm0) hF31 (xm1 0 rfl xm0) (xm1 0 rfl xm0) xm0) hF129 xm0 (xm1 6 rfl xm0) xm0) hF146 xm0 (xm1 7 rfl xm0) xm0) hF159 xm0 (xm1 3 rfl xm0) xm0) hF172 xm0 (xm1 4 rfl xm0) xm0) hF185 xm0 (xm1 8 rfl xm0) xm0) (List.mem_of_getElem? (i := 6) rfl)) hF196 (xm1 0 rfl (xm1 1 rfl xm0)) (xm1 0 rfl (xm1 1 rfl (xm1 2 rfl (xm1 3 rfl (xm1 4 rfl xm0))))) xm0), (by rw [(show (G196.1 a 23).toInt = ((G6.1 a 23).toInt) from (congrArg Int32.toInt ((hF196.1 _ _ (xnj (by decide) (xnj (by decide) xn0))).trans ((ld_j hG192 (by decide)).trans ((hF185.1 _ _ xn0).trans ((hF172.1 _ _ xn0).trans ((hF159.1 _ _ xn0).trans ((hF146.1 _ _ xn0).trans ((hF129.1 _ _ xn0).trans (hF31.1 _ _ (xnj (by decide) xn0)))))))))).trans (rfl : Int32.toInt (G6.1 a 23) = ((G6.1 a 23).toInt)))] <;> exact (z_X11_back_5 ((G6.1 a 20).toInt) ((G6.1 a 21).toInt) ((G6.1 a 23).toInt) t6)), (v_X11_back_199_13 (K := K) (F := F) a G G6 G31 G129 G146 G159 G172 x191 G196 l2_36 p0 x196 x21 N36 ha oq31 oq31a pk oq129a oq146 oq159a oq172a e191 oq196 oq196a m0 t6 (xzi hz10) c13 t21 c24 z34 I36_0 I36_1 hm36 c41 t196 ((hF129.2.1 _ (xn1 (xne_k hk9999k hk9999f (by decide)) xn0)).trans ((hF31.2.1 _ (xn1 (xne_k hk9999k hk9999 (by decide)) xn0)).trans ((hF6.2.1 _ xn0).trans (ld_c hG2)))) ((hF196.2.1 _ (xn1 (xne_k hk9999g hk9999 (by decide)) (xn1 (xne_k hk9999g hk9999a (by decide)) (xn1 (xne_k hk9999g hk9999b (by decide)) (xn1 (xne_k hk9999g hk9999c (by decide)) (xn1 (xne_k hk9999g hk9999d (by decide)) xn0)))))).trans ((ld_c hG192).trans ((hF185.2.1 _ (xn1 (xne_k hk9999g hk9999h (by decide)) xn0)).trans ((hF172.2.1 _ (xn1 (xne_k hk9999g hk9999d (by decide)) xn0)).trans (hF159.2.1 _ (xn1 (xne_k hk9999g hk9999c (by decide)) xn0)))))) ((hF196.1 _ _ (xnj (by decide) (xnj (by decide) xn0))).trans (ld_at hG192))), (v_X11_back_199_14 (K := K) (F := F) a G G6 G31 G129 G146 G159 G172 G196 l2_36 p0 x196 x21 N36 ha hmk oq31a oq129a oq146 oq159a oq172a oq196a m0 t6 (xzi hz10) c13 t21 c24 z34 I36_0 I36_1 hm36 c41 t196 ((hF129.2.1 _ (xn1 (xne_k hk9999k hk9999f (by decide)) xn0)).trans ((hF31.2.1 _ (xn1 (xne_k hk9999k hk9999 (by decide)) xn0)).trans ((hF6.2.1 _ xn0).trans (ld_c hG2)))) ((hF196.2.1 _ (xn1 (xne_k hk9999g hk9999 (by decide)) (xn1 (xne_k hk9999g hk9999a (by decide)) (xn1 (xne_k hk9999g hk9999b (by decide)) (xn1 (xne_k hk9999g hk9999c (by decide)) (xn1 (xne_k hk9999g hk9999d (by decide)) xn0)))))).trans ((ld_c hG192).trans ((hF185.2.1 _ (xn1 (xne_k hk9999g hk9999h (by decide)) xn0)).trans ((hF172.2.1 _ (xn1 (xne_k hk9999g hk9999d (by decide)) xn0)).trans (hF159.2.1 _ (xn1 (xne_k hk9999g hk9999c (by decide)) xn0)))))))⟩ hT
          · refine lv_aload_n hx hb dX11_back_44 rfl (lv_at hl 0 rfl) ?_
            refine gX11_15 S hK hT ha kf_X11_48 dX11_back_45 (fun _ _ => ?_)
            refine lv_iload_n hx hb dX11_back_48 rfl (lv_at hl 2 rfl) ?_
            refine al_0 S hK hT hk9999 ar_42 (by decide) (z_X11_back_6 l2_36.toInt ((G31.1 a 16).toInt) z34 I36_0 c41) dX11_back_49 (fun x49 hv49 o49 => ?_)
            have hv49 : x49.toInt = (aI (G31.2.1 (F a 15)) (l2_36.toInt)) := hv49.trans (by rw [(rfl : Int32.toInt l2_36 = l2_36.toInt)])
            refine lv_istore_n (lv' := [(3, .int x49), (0, .ref a), (1, .int p0), (2, .int l2_36)]) hx hb dX11_back_50 rfl hl (by decide) rfl (fun ls hl => ?_)
            have z51 : 0 ≤ (aI (G31.2.1 (F a 15)) (l2_36.toInt)) ∧ (aI (G31.2.1 (F a 15)) (l2_36.toInt)) ≤ 11 ∧ (aI (G.2.1 (F a 10)) (10 * (aI (G31.2.1 (F a 15)) (l2_36.toInt)) + 0)) ≠ -1 := oq31.ent (by decide) (z_X11_back_7 l2_36.toInt ((G31.1 a 16).toInt) I36_0 c41)
            have z51a : (((aI (G.2.1 (F a 10)) (10 * (aI (G31.2.1 (F a 15)) (l2_36.toInt)) + 0)) = 2 ∨ (aI (G.2.1 (F a 10)) (10 * (aI (G31.2.1 (F a 15)) (l2_36.toInt)) + 0)) = 4 ∨ (aI (G.2.1 (F a 10)) (10 * (aI (G31.2.1 (F a 15)) (l2_36.toInt)) + 0)) = 5) ∧ (sF (aI (G.2.1 (F a 10)) (10 * (aI (G31.2.1 (F a 15)) (l2_36.toInt)) + 0))) = 0 ∧ (sL (aI (G.2.1 (F a 10)) (10 * (aI (G31.2.1 (F a 15)) (l2_36.toInt)) + 0))) = 29) ∨ (¬ ((aI (G.2.1 (F a 10)) (10 * (aI (G31.2.1 (F a 15)) (l2_36.toInt)) + 0)) = 2 ∨ (aI (G.2.1 (F a 10)) (10 * (aI (G31.2.1 (F a 15)) (l2_36.toInt)) + 0)) = 4 ∨ (aI (G.2.1 (F a 10)) (10 * (aI (G31.2.1 (F a 15)) (l2_36.toInt)) + 0)) = 5) ∧ (sF (aI (G.2.1 (F a 10)) (10 * (aI (G31.2.1 (F a 15)) (l2_36.toInt)) + 0))) = -99 ∧ (sL (aI (G.2.1 (F a 10)) (10 * (aI (G31.2.1 (F a 15)) (l2_36.toInt)) + 0))) = 99) := sFL _
            refine lv_aload_n hx hb dX11_back_51 rfl (lv_at hl 1 rfl) ?_
            refine lv_iload_n hx hb dX11_back_52 rfl (lv_at hl 0 rfl) ?_
            refine x_clp (x_runV (b := a) (As := [.int x49]) (rest := []) S (c_X11_firstSubject l E K F G31 H a x49 ha (by rw [(hv49 : Int32.toInt x49 = (aI (G31.2.1 (F a 15)) (l2_36.toInt)))] <;> exact (z_X11_back_8 (aI (G31.2.1 (F a 15)) (l2_36.toInt)) (z51).1 (z51).2.1))) mv_X11_firstSubject km_X11_179 rfl rfl ⟨Nat.le_of_ble_eq_true rfl, Nat.le_of_ble_eq_true rfl⟩ (rc_13 hK hT ha) hK (fun _ => XPh.blind) (fun U hU hW => XPh.at hK hz hS hT hU hW) rfl hl.1 (Nat.le_of_ble_eq_true rfl) dX11_back_53 ⟨Nat.le_of_ble_eq_true rfl, Nat.le_of_ble_eq_true rfl⟩) hS ?_
            rintro _ _ locs ⟨x53, rfl, t53⟩ hS
            have t53 : x53.toInt = (sF (aI (G.2.1 (F a 10)) (10 * (aI (G31.2.1 (F a 15)) (l2_36.toInt)) + 0))) := by rw [(hv49 : Int32.toInt x49 = (aI (G31.2.1 (F a 15)) (l2_36.toInt)))] at t53; rw [(show G31.2.1 (F a 10) = G.2.1 (F a 10) from ((hF31.2.1 _ (xn1 (xne_k hk9999i hk9999 (by decide)) xn0)).trans ((hF6.2.1 _ xn0).trans (ld_c hG2))))] at t53; exact t53
            refine lv_istore (lv' := [(4, .int x53), (3, .int x49), (0, .ref a), (1, .int p0), (2, .int l2_36)]) hx hb dX11_back_56 hl (by decide) rfl (fun ls hl => ?_)
            have L58 : ∀ (N58 : Nat) (l4_58 : Int32) (H : Heap) (locs : List Loc) (ls : Array Slot), (∀ s : Int, sF (aI (G.2.1 (F a 10)) (10 * (aI (G31.2.1 (F a 15)) (l2_36.toInt)) + 0)) ≤ s → s < l4_58.toInt → fzq (G.2.1 (F a 10)) (mw (G.2.1 (F a 3)) (360 * p0.toInt)) (aI (G31.2.1 (F a 15)) (l2_36.toInt)) s = 0) → (sF (aI (G.2.1 (F a 10)) (10 * (aI (G31.2.1 (F a 15)) (l2_36.toInt)) + 0))) ≤ l4_58.toInt ∧ l4_58.toInt ≤ (sL (aI (G.2.1 (F a 10)) (10 * (aI (G31.2.1 (F a 15)) (l2_36.toInt)) + 0))) + 1 → 2147483648 - l4_58.toInt < ((N58 : Nat) : Int) → TW E K F G31 H → va_S (xA E) s.heap H locs → lv_has ls 5 [(0, .ref a), (1, .int p0), (2, .int l2_36), (3, .int x49), (4, .int l4_58)] → W p l e rm_X11_back s m args below meth c H locs 0 0 Q (F0 m 58 ls []) := by
              intro N58
              induction N58 with
              | zero =>
                intro l4_58 H locs ls ps I58_0 hm58
                exact absurd hm58 (z_X11_back_1 l4_58.toInt (xr l4_58))
              | succ N58 ih58 =>
                intro l4_58 H locs ls ps I58_0 hm58 hT hS hl
                refine lv_iload hx hb dX11_back_58 (lv_at hl 4 rfl) ?_
                refine lv_aload_n hx hb dX11_back_60 rfl (lv_at hl 0 rfl) ?_
                refine lv_iload_n hx hb dX11_back_61 rfl (lv_at hl 3 rfl) ?_
                refine x_clp (x_runV (b := a) (As := [.int x49]) (rest := [.int l4_58]) S (c_X11_lastSubject l E K F G31 H a x49 ha (by rw [(hv49 : Int32.toInt x49 = (aI (G31.2.1 (F a 15)) (l2_36.toInt)))] <;> exact (z_X11_back_8 (aI (G31.2.1 (F a 15)) (l2_36.toInt)) (z51).1 (z51).2.1))) mv_X11_lastSubject km_X11_183 rfl rfl ⟨Nat.le_of_ble_eq_true rfl, Nat.le_of_ble_eq_true rfl⟩ (rc_13 hK hT ha) hK (fun _ => XPh.blind) (fun U hU hW => XPh.at hK hz hS hT hU hW) rfl hl.1 (Nat.le_of_ble_eq_true rfl) dX11_back_62 ⟨Nat.le_of_ble_eq_true rfl, Nat.le_of_ble_eq_true rfl⟩) hS ?_
                rintro _ _ locs ⟨x62, rfl, t62⟩ hS
                have t62 : x62.toInt = (sL (aI (G.2.1 (F a 10)) (10 * (aI (G31.2.1 (F a 15)) (l2_36.toInt)) + 0))) := by rw [(hv49 : Int32.toInt x49 = (aI (G31.2.1 (F a 15)) (l2_36.toInt)))] at t62; rw [(show G31.2.1 (F a 10) = G.2.1 (F a 10) from ((hF31.2.1 _ (xn1 (xne_k hk9999i hk9999 (by decide)) xn0)).trans ((hF6.2.1 _ xn0).trans (ld_c hG2))))] at t62; exact t62
                refine xi_cgt (tgt := 113) hx hb (rfl : Int32.toInt l4_58 = l4_58.toInt) (t62 : Int32.toInt x62 = (sL (aI (G.2.1 (F a 10)) (10 * (aI (G31.2.1 (F a 15)) (l2_36.toInt)) + 0)))) dX11_back_65 (by decide) (fun c65 => ?_) (fun c65 => ?_)
                · refine xi_iinc (n := 1) (lv' := fun z9 => [(2, .int z9), (0, .ref a), (1, .int p0), (3, .int x49), (4, .int l4_58)]) (k := 2) hx hb (rfl : Int32.toInt l2_36 = l2_36.toInt) (by decide) dX11_back_113 hl rfl (by decide) (fun _ => rfl) (fun x113 ls t113 hl => ?_)
                  have e113 : x113.toInt = (l2_36.toInt + 1) := (z_X11_back_11 l2_36.toInt x113.toInt ((G31.1 a 16).toInt) z34 I36_0 t113)
                  have hl : lv_has ls 5 [(2, .int x113), (0, .ref a), (1, .int p0), (3, .int x49), (4, .int l4_58)] := hl
                  refine lv_goto (tgt := 36) hx hb dX11_back_116 (by decide) ?_
                  exact ih36 x113 _ _ _ (by rw [(e113 : Int32.toInt x113 = (l2_36.toInt + 1))] <;> exact (v_X11_back_116_15 (K := K) (F := F) a G G6 G31 l2_36 p0 l4_58 x21 N36 N58 ha oq31a pk ps m0 t6 (xzi hz10) c13 t21 c24 z34 I36_0 I36_1 hm36 c41 z51 z51a I58_0 hm58 c65)) (by rw [(e113 : Int32.toInt x113 = (l2_36.toInt + 1))] <;> exact (z_X11_back_12 l2_36.toInt ((G31.1 a 16).toInt) I36_0 c41)) (by rw [(e113 : Int32.toInt x113 = (l2_36.toInt + 1))] <;> exact (z_X11_back_13 l2_36.toInt ((G31.1 a 16).toInt) I36_0)) (by rw [(e113 : Int32.toInt x113 = (l2_36.toInt + 1))] <;> exact (z_X11_back_14 l2_36.toInt N36 hm36)) hT hS (lv_sub hl [1, 2, 0] rfl)
                · refine lv_aload_n hx hb dX11_back_68 rfl (lv_at hl 0 rfl) ?_
                  refine lv_iload_n hx hb dX11_back_69 rfl (lv_at hl 3 rfl) ?_
                  refine lv_bipush (v := 6) hx hb dX11_back_70 (by decide) ?_
                  refine x_clp (x_runV (b := a) (As := [.int x49, .int 6]) (rest := []) S (c_X11_of l E K F G31 H a x49 6 ha (by rw [(hv49 : Int32.toInt x49 = (aI (G31.2.1 (F a 15)) (l2_36.toInt)))] <;> exact (z_X11_back_8 (aI (G31.2.1 (F a 15)) (l2_36.toInt)) (z51).1 (z51).2.1)) (by decide)) mv_X11_of km_X11_165 rfl rfl ⟨Nat.le_of_ble_eq_true rfl, Nat.le_of_ble_eq_true rfl⟩ (rc_13 hK hT ha) hK (fun _ => XPh.blind) (fun U hU hW => XPh.at hK hz hS hT hU hW) rfl hl.1 (Nat.le_of_ble_eq_true rfl) dX11_back_72 ⟨Nat.le_of_ble_eq_true rfl, Nat.le_of_ble_eq_true rfl⟩) hS ?_
                  rintro _ _ locs ⟨x72, rfl, t72⟩ hS
                  have t72 : x72.toInt = (aI (G.2.1 (F a 10)) (10 * (aI (G31.2.1 (F a 15)) (l2_36.toInt)) + 6)) := by rw [(hv49 : Int32.toInt x49 = (aI (G31.2.1 (F a 15)) (l2_36.toInt)))] at t72; rw [(show G31.2.1 (F a 10) = G.2.1 (F a 10) from ((hF31.2.1 _ (xn1 (xne_k hk9999i hk9999 (by decide)) xn0)).trans ((hF6.2.1 _ xn0).trans (ld_c hG2))))] at t72; exact t72
                  refine xi_zne (tgt := 113) hx hb (t72 : Int32.toInt x72 = (aI (G.2.1 (F a 10)) (10 * (aI (G31.2.1 (F a 15)) (l2_36.toInt)) + 6))) dX11_back_75 (by decide) (fun c75 => ?_) (fun c75 => ?_)
                  · refine xi_iinc (n := 1) (lv' := fun z9 => [(2, .int z9), (0, .ref a), (1, .int p0), (3, .int x49), (4, .int l4_58)]) (k := 2) hx hb (rfl : Int32.toInt l2_36 = l2_36.toInt) (by decide) dX11_back_113 hl rfl (by decide) (fun _ => rfl) (fun x113 ls t113 hl => ?_)
                    have e113 : x113.toInt = (l2_36.toInt + 1) := (z_X11_back_11 l2_36.toInt x113.toInt ((G31.1 a 16).toInt) z34 I36_0 t113)
                    have hl : lv_has ls 5 [(2, .int x113), (0, .ref a), (1, .int p0), (3, .int x49), (4, .int l4_58)] := hl
                    refine lv_goto (tgt := 36) hx hb dX11_back_116 (by decide) ?_
                    exact ih36 x113 _ _ _ (by rw [(e113 : Int32.toInt x113 = (l2_36.toInt + 1))] <;> exact (v_X11_back_116_16 (K := K) (F := F) a G G6 G31 l2_36 p0 l4_58 x21 N36 N58 ha oq31a pk m0 t6 (xzi hz10) c13 t21 c24 z34 I36_0 I36_1 hm36 c41 z51 z51a I58_0 hm58 c65 c75)) (by rw [(e113 : Int32.toInt x113 = (l2_36.toInt + 1))] <;> exact (z_X11_back_12 l2_36.toInt ((G31.1 a 16).toInt) I36_0 c41)) (by rw [(e113 : Int32.toInt x113 = (l2_36.toInt + 1))] <;> exact (z_X11_back_13 l2_36.toInt ((G31.1 a 16).toInt) I36_0)) (by rw [(e113 : Int32.toInt x113 = (l2_36.toInt + 1))] <;> exact (z_X11_back_14 l2_36.toInt N36 hm36)) hT hS (lv_sub hl [1, 2, 0] rfl)
                  · refine lv_aload_n hx hb dX11_back_78 rfl (lv_at hl 0 rfl) ?_
                    refine lv_iload_n hx hb dX11_back_79 rfl (lv_at hl 3 rfl) ?_
                    refine lv_iload hx hb dX11_back_80 (lv_at hl 4 rfl) ?_
                    refine lv_aload_n hx hb dX11_back_82 rfl (lv_at hl 0 rfl) ?_
                    refine gX11_3 S hK hT ha kf_X11_18 dX11_back_83 (fun _ _ => ?_)
                    refine lv_sipush (v := 360) hx hb dX11_back_86 (by decide) ?_
                    refine lv_iload_n hx hb dX11_back_89 rfl (lv_at hl 1 rfl) ?_
                    refine xi_imul hx hb ((by decide) : Int32.toInt 360 = (360 : Int)) (rfl : Int32.toInt p0 = p0.toInt) dX11_back_90 (fun x90 t90 => ?_)
                    have e90 : x90.toInt = ((360 : Int) * p0.toInt) := (z_X11_back_20 p0.toInt x21.toInt x90.toInt ((G.1 a 6).toInt) ((G.1 a 7).toInt) m0 t21 c24 t90)
                    refine x_clp (x_runV (b := a) (As := [.int x49, .int l4_58, .ref (F a 3), .int x90]) (rest := []) S (c_X11_fails l E K F G31 H a x49 l4_58 (F a 3) x90 ha (XO.c hk9999k (by rw [(e90 : Int32.toInt x90 = ((360 : Int) * p0.toInt))] <;> exact (z_X11_back_3 p0.toInt x21.toInt ((G.1 a 6).toInt) ((G.1 a 7).toInt) m0 t21 c24))) (by rw [(hv49 : Int32.toInt x49 = (aI (G31.2.1 (F a 15)) (l2_36.toInt)))] <;> exact (z_X11_back_8 (aI (G31.2.1 (F a 15)) (l2_36.toInt)) (z51).1 (z51).2.1)) (by rw [(hv49 : Int32.toInt x49 = (aI (G31.2.1 (F a 15)) (l2_36.toInt))), (show G31.2.1 (F a 10) = G.2.1 (F a 10) from ((hF31.2.1 _ (xn1 (xne_k hk9999i hk9999 (by decide)) xn0)).trans ((hF6.2.1 _ xn0).trans (ld_c hG2))))] <;> exact ((z51).2.2)) (by rw [(hv49 : Int32.toInt x49 = (aI (G31.2.1 (F a 15)) (l2_36.toInt))), (show G31.2.1 (F a 10) = G.2.1 (F a 10) from ((hF31.2.1 _ (xn1 (xne_k hk9999i hk9999 (by decide)) xn0)).trans ((hF6.2.1 _ xn0).trans (ld_c hG2))))] <;> exact (z_X11_back_24 l4_58.toInt (sF (aI (G.2.1 (F a 10)) (10 * (aI (G31.2.1 (F a 15)) (l2_36.toInt)) + 0))) (sL (aI (G.2.1 (F a 10)) (10 * (aI (G31.2.1 (F a 15)) (l2_36.toInt)) + 0))) I58_0 c65)) (v_X11_back_91_17 (F := F) a G G31 hR ((hF31.2.1 _ (xn1 (xne_k hk9999i hk9999 (by decide)) xn0)).trans ((hF6.2.1 _ xn0).trans (ld_c hG2)))) (by rw [(e90 : Int32.toInt x90 = ((360 : Int) * p0.toInt))] <;> exact (v_X11_back_91_18 (K := K) (F := F) a G G6 G31 l2_36 p0 l4_58 x21 N36 N58 ha hmk oq31a m0 t6 (xzi hz10) c13 t21 c24 z34 I36_0 I36_1 hm36 c41 z51 z51a I58_0 hm58 c65 c75 ((hF31.2.1 _ (xn1 (xne_k hk9999k hk9999 (by decide)) xn0)).trans ((hF6.2.1 _ xn0).trans (ld_c hG2)))))) mv_X11_fails km_X11_221 rfl rfl ⟨Nat.le_of_ble_eq_true rfl, Nat.le_of_ble_eq_true rfl⟩ (rc_13 hK hT ha) hK (fun _ => XPh.blind) (fun U hU hW => XPh.at hK hz hS hT hU hW) rfl hl.1 (Nat.le_of_ble_eq_true rfl) dX11_back_91 ⟨Nat.le_of_ble_eq_true rfl, Nat.le_of_ble_eq_true rfl⟩) hS ?_
                    rintro _ _ locs ⟨x91, rfl, b91, t91⟩ hS
                    have t91 : x91.toInt = (flq (mw (G.2.1 (F a 3)) (360 * p0.toInt)) (aI (G.2.1 (F a 10)) (10 * (aI (G31.2.1 (F a 15)) (l2_36.toInt)) + 0)) (aI (G.2.1 (F a 10)) (10 * (aI (G31.2.1 (F a 15)) (l2_36.toInt)) + 1)) (aI (G.2.1 (F a 10)) (10 * (aI (G31.2.1 (F a 15)) (l2_36.toInt)) + 2)) (aI (G.2.1 (F a 10)) (10 * (aI (G31.2.1 (F a 15)) (l2_36.toInt)) + 4)) (aI (G.2.1 (F a 10)) (10 * (aI (G31.2.1 (F a 15)) (l2_36.toInt)) + 5)) (l4_58.toInt) (stt (mw (G.2.1 (F a 3)) (360 * p0.toInt)) (aI (G.2.1 (F a 10)) (10 * (aI (G31.2.1 (F a 15)) (l2_36.toInt)) + 0)) (aI (G.2.1 (F a 10)) (10 * (aI (G31.2.1 (F a 15)) (l2_36.toInt)) + 1)) (aI (G.2.1 (F a 10)) (10 * (aI (G31.2.1 (F a 15)) (l2_36.toInt)) + 2)) (aI (G.2.1 (F a 10)) (10 * (aI (G31.2.1 (F a 15)) (l2_36.toInt)) + 3)) (l4_58.toInt))) := by rw [(e90 : Int32.toInt x90 = ((360 : Int) * p0.toInt))] at t91; rw [(hv49 : Int32.toInt x49 = (aI (G31.2.1 (F a 15)) (l2_36.toInt)))] at t91; rw [(show G31.2.1 (F a 3) = G.2.1 (F a 3) from ((hF31.2.1 _ (xn1 (xne_k hk9999k hk9999 (by decide)) xn0)).trans ((hF6.2.1 _ xn0).trans (ld_c hG2))))] at t91; rw [(show G31.2.1 (F a 10) = G.2.1 (F a 10) from ((hF31.2.1 _ (xn1 (xne_k hk9999i hk9999 (by decide)) xn0)).trans ((hF6.2.1 _ xn0).trans (ld_c hG2))))] at t91; exact t91
                    refine xi_zeq (tgt := 107) hx hb (rfl : Int32.toInt x91 = x91.toInt) dX11_back_94 (by decide) (fun c94 => ?_) (fun c94 => ?_)
                    · refine xi_iinc (n := 1) (lv' := fun z9 => [(4, .int z9), (0, .ref a), (1, .int p0), (2, .int l2_36), (3, .int x49)]) (k := 4) hx hb (rfl : Int32.toInt l4_58 = l4_58.toInt) (by decide) dX11_back_107 hl rfl (by decide) (fun _ => rfl) (fun x107 ls t107 hl => ?_)
                      have e107 : x107.toInt = (l4_58.toInt + 1) := (z_X11_back_25 l4_58.toInt x107.toInt (aI (G.2.1 (F a 10)) (10 * (aI (G31.2.1 (F a 15)) (l2_36.toInt)) + 0)) (sF (aI (G.2.1 (F a 10)) (10 * (aI (G31.2.1 (F a 15)) (l2_36.toInt)) + 0))) (sL (aI (G.2.1 (F a 10)) (10 * (aI (G31.2.1 (F a 15)) (l2_36.toInt)) + 0))) z51a c65 t107 (xr l4_58))
                      have hl : lv_has ls 5 [(4, .int x107), (0, .ref a), (1, .int p0), (2, .int l2_36), (3, .int x49)] := hl
                      refine lv_goto (tgt := 58) hx hb dX11_back_110 (by decide) ?_
                      exact ih58 x107 _ _ _ (by rw [(e107 : Int32.toInt x107 = (l4_58.toInt + 1))] <;> exact (v_X11_back_110_19 (K := K) (F := F) a G G6 G31 l2_36 p0 l4_58 x21 N36 N58 x91 ha oq31a ps m0 t6 (xzi hz10) c13 t21 c24 z34 I36_0 I36_1 hm36 c41 z51 z51a I58_0 hm58 c65 c75 t91 (xzi b91) c94)) (by rw [(e107 : Int32.toInt x107 = (l4_58.toInt + 1))] <;> exact (z_X11_back_26 l4_58.toInt (sF (aI (G.2.1 (F a 10)) (10 * (aI (G31.2.1 (F a 15)) (l2_36.toInt)) + 0))) (sL (aI (G.2.1 (F a 10)) (10 * (aI (G31.2.1 (F a 15)) (l2_36.toInt)) + 0))) I58_0 c65)) (by rw [(e107 : Int32.toInt x107 = (l4_58.toInt + 1))] <;> exact (z_X11_back_14 l4_58.toInt N58 hm58)) hT hS (lv_sub hl [1, 2, 3, 4, 0] rfl)
                    · refine lv_aload_n hx hb dX11_back_97 rfl (lv_at hl 0 rfl) ?_
                      refine lv_iload_n hx hb dX11_back_98 rfl (lv_at hl 3 rfl) ?_
                      refine lv_iload hx hb dX11_back_99 (lv_at hl 4 rfl) ?_
                      refine x_cv0 (x_runV (b := a) (As := [.int x49, .int l4_58]) (rest := []) S (c_X11_failed l E K F G31 a x49 l4_58 ha (by rw [(hv49 : Int32.toInt x49 = (aI (G31.2.1 (F a 15)) (l2_36.toInt)))] <;> exact (z_X11_back_8 (aI (G31.2.1 (F a 15)) (l2_36.toInt)) (z51).1 (z51).2.1)) (z_X11_back_29 l4_58.toInt (aI (G.2.1 (F a 10)) (10 * (aI (G31.2.1 (F a 15)) (l2_36.toInt)) + 0)) (sF (aI (G.2.1 (F a 10)) (10 * (aI (G31.2.1 (F a 15)) (l2_36.toInt)) + 0))) (sL (aI (G.2.1 (F a 10)) (10 * (aI (G31.2.1 (F a 15)) (l2_36.toInt)) + 0))) z51a I58_0 c65)) mv_X11_failed km_X11_299 rfl rfl ⟨Nat.le_of_ble_eq_true rfl, Nat.le_of_ble_eq_true rfl⟩ (rc_13 hK hT ha) hK (fun _ => XP.blind) (fun U hU hW => XP.at hK hz hS hT hU hW) rfl hl.1 (Nat.le_of_ble_eq_true rfl) dX11_back_101 ⟨Nat.le_of_ble_eq_true rfl, Nat.le_of_ble_eq_true rfl⟩) hS ?_
                      rintro G101 H locs ⟨hF101, t101⟩ hT hS
                      have t101 : ((G101.1 a 20).toInt) = (aI (G31.2.1 (F a 15)) (l2_36.toInt)) ∧ ((G101.1 a 21).toInt) = l4_58.toInt ∧ 0 ≤ ((G101.1 a 23).toInt) ∧ ((G101.1 a 23).toInt) ≤ 24 := by rw [(hv49 : Int32.toInt x49 = (aI (G31.2.1 (F a 15)) (l2_36.toInt)))] at t101; exact t101
                      refine lv_bipush (v := (-5)) hx hb dX11_back_104 (by decide) ?_
                      exact x_ri hx hb hr hlk hQ (Nat.le_of_ble_eq_true rfl) (Nat.le_of_ble_eq_true rfl) hS dX11_back_106 G101 ⟨_, rfl, (XFr.call (XFr.call (XFr.call (by rw [hG2]; exact XFr.dput XFr.rf (List.mem_of_getElem? (i := 5) rfl)) hF6 (xm1 2 rfl (xm1 3 rfl (xm1 4 rfl xm0))) xm0 xm0) hF31 (xm1 0 rfl xm0) (xm1 0 rfl xm0) xm0) hF101 (xm1 2 rfl (xm1 3 rfl (xm1 4 rfl xm0))) (xm1 5 rfl xm0) xm0), (z_X11_back_30 l4_58.toInt ((G101.1 a 20).toInt) ((G101.1 a 21).toInt) ((G101.1 a 23).toInt) (aI (G31.2.1 (F a 15)) (l2_36.toInt)) t101), (by rw [((by decide) : Int32.toInt (-5) = (-5 : Int))] <;> exact (v_X11_back_106_20 (K := K) (F := F) a G G6 G31 G101 l2_36 p0 l4_58 x21 N36 N58 x91 ha oq31a m0 t6 (xzi hz10) c13 t21 c24 z34 I36_0 I36_1 hm36 c41 z51 z51a I58_0 hm58 c65 c75 t91 (xzi b91) c94 t101 ((hF101.2.1 _ (xn1 (xne_k hk9999g hk9999e (by decide)) xn0)).trans ((hF31.2.1 _ (xn1 (xne_k hk9999g hk9999 (by decide)) xn0)).trans ((hF6.2.1 _ xn0).trans (ld_c hG2)))) ((hF101.1 _ _ (xnj (by decide) (xnj (by decide) (xnj (by decide) xn0)))).trans ((hF31.1 _ _ (xnj (by decide) xn0)).trans ((hF6.1 _ _ (xnj (by decide) (xnj (by decide) (xnj (by decide) xn0)))).trans (ld_j hG2 (by decide))))))), (v_X11_back_106_21 (F := F) a G G101 hM ((hF101.2.1 _ (xn1 (xne_k hk9999g hk9999e (by decide)) xn0)).trans ((hF31.2.1 _ (xn1 (xne_k hk9999g hk9999 (by decide)) xn0)).trans ((hF6.2.1 _ xn0).trans (ld_c hG2)))))⟩ hT
            exact L58 4294967297 x53 _ _ _ (by rw [(t53 : Int32.toInt x53 = (sF (aI (G.2.1 (F a 10)) (10 * (aI (G31.2.1 (F a 15)) (l2_36.toInt)) + 0))))] <;> exact (v_X11_back_56_22 (K := K) (F := F) a G G6 G31 l2_36 p0 x21 N36 ha oq31a m0 t6 (xzi hz10) c13 t21 c24 z34 I36_0 I36_1 hm36 c41 z51 z51a)) (by rw [(t53 : Int32.toInt x53 = (sF (aI (G.2.1 (F a 10)) (10 * (aI (G31.2.1 (F a 15)) (l2_36.toInt)) + 0))))] <;> exact (z_X11_back_31 (aI (G.2.1 (F a 10)) (10 * (aI (G31.2.1 (F a 15)) (l2_36.toInt)) + 0)) (sF (aI (G.2.1 (F a 10)) (10 * (aI (G31.2.1 (F a 15)) (l2_36.toInt)) + 0))) (sL (aI (G.2.1 (F a 10)) (10 * (aI (G31.2.1 (F a 15)) (l2_36.toInt)) + 0))) z51a)) (by rw [(t53 : Int32.toInt x53 = (sF (aI (G.2.1 (F a 10)) (10 * (aI (G31.2.1 (F a 15)) (l2_36.toInt)) + 0))))] <;> exact (z_X11_back_32 (aI (G.2.1 (F a 10)) (10 * (aI (G31.2.1 (F a 15)) (l2_36.toInt)) + 0)) (sF (aI (G.2.1 (F a 10)) (10 * (aI (G31.2.1 (F a 15)) (l2_36.toInt)) + 0))) (sL (aI (G.2.1 (F a 10)) (10 * (aI (G31.2.1 (F a 15)) (l2_36.toInt)) + 0))) z51a)) hT hS (lv_sub hl [2, 3, 4, 1, 0] rfl)
      exact L36 4294967297 0 _ _ _ (v_X11_back_35_23 (K := K) (F := F) a G G6 G31 p0 x21 ha oq31a m0 t6 (xzi hz10) c13 t21 c24 z34) (z_X11_back_33 ((G31.1 a 16).toInt) z34) (by decide) (by decide) hT hS (lv_sub hl [1, 2, 0] rfl)
    · refine lv_bipush (v := (-2)) hx hb dX11_back_27 (by decide) ?_
      exact x_ri hx hb hr hlk hQ (Nat.le_of_ble_eq_true rfl) (Nat.le_of_ble_eq_true rfl) hS dX11_back_29 G6 ⟨_, rfl, (XFr.call (by rw [hG2]; exact XFr.dput XFr.rf (List.mem_of_getElem? (i := 5) rfl)) hF6 (xm1 2 rfl (xm1 3 rfl (xm1 4 rfl xm0))) xm0 xm0), (z_X11_back_5 ((G6.1 a 20).toInt) ((G6.1 a 21).toInt) ((G6.1 a 23).toInt) t6), (by rw [((by decide) : Int32.toInt (-2) = (-2 : Int))] <;> exact (v_X11_back_29_24 (K := K) (F := F) a G G6 p0 x21 ha m0 t6 (xzi hz10) c13 t21 c24 ((hF6.2.1 _ xn0).trans (ld_c hG2)) ((hF6.1 _ _ (xnj (by decide) (xnj (by decide) (xnj (by decide) xn0)))).trans (ld_j hG2 (by decide))))), (v_X11_back_29_25 (F := F) a G G6 hM ((hF6.2.1 _ xn0).trans (ld_c hG2)))⟩ hT
  · refine lv_bipush (v := (-3)) hx hb dX11_back_16 (by decide) ?_
    exact x_ri hx hb hr hlk hQ (Nat.le_of_ble_eq_true rfl) (Nat.le_of_ble_eq_true rfl) hS dX11_back_18 G6 ⟨_, rfl, (XFr.call (by rw [hG2]; exact XFr.dput XFr.rf (List.mem_of_getElem? (i := 5) rfl)) hF6 (xm1 2 rfl (xm1 3 rfl (xm1 4 rfl xm0))) xm0 xm0), (z_X11_back_5 ((G6.1 a 20).toInt) ((G6.1 a 21).toInt) ((G6.1 a 23).toInt) t6), (by rw [((by decide) : Int32.toInt (-3) = (-3 : Int))] <;> exact (v_X11_back_18_26 (K := K) (F := F) a G G6 p0 ha m0 t6 (xzi hz10) c13 ((hF6.2.1 _ xn0).trans (ld_c hG2)) ((hF6.1 _ _ (xnj (by decide) (xnj (by decide) (xnj (by decide) xn0)))).trans (ld_j hG2 (by decide))))), (v_X11_back_18_27 (F := F) a G G6 hM ((hF6.2.1 _ xn0).trans (ld_c hG2)))⟩ hT
theorem v_X10_mark_56_1 {K : Nat → Nat} {F : Nat → Nat → Nat} (a : Nat) (xq : Nat) (xj : Nat) (G34 : XG) (G : XG) (x33 : Int32)
    (ha : K a = 12)
    (hxk : K xq = 8)
    (hxj : F xq 99 = 4 + xj)
    (hxs : ((G.1 a 17).toInt) < 8 → G.2.2.1 (F a 7) (((G.1 a 17).toInt)).toNat = some xq)
    (e33 : x33.toInt = (((G.1 a 17).toInt) + (1 : Int)))
    (hn39 : ((G.1 a 17).toInt) < 0 ∨ ((G34.1 a 17).toInt) ≤ ((G.1 a 17).toInt) ∨ 8 ≤ ((G.1 a 17).toInt))
    (m0 : 0 ≤ ((G.1 a 17).toInt) ∧ ((G.1 a 17).toInt) ≤ 8)
    (f22 : ((G.1 a 18).toInt) = 0 ∨ ((G.1 a 18).toInt) = 1)
    (c4 : ((G.1 a 18).toInt) ≠ 0)
    (c16 : ((G.1 a 17).toInt) < (8 : Int))
    (d_G34_a_17 : G34.1 a 17 = x33) :
    ((((G.1 a 18).toInt) = 0 ∨ 8 ≤ ((G.1 a 17).toInt)) ∧ G34.2.1 (F xq 0) = (G.2.1 (F xq 0)) ∧ G34.2.1 (F xq 1) = (G.2.1 (F xq 1))) ∨ ((((G.1 a 18).toInt) ≠ 0 ∧ ((G.1 a 17).toInt) < 8) ∧ (vw (G34.2.1 (F xq 0))) = (vw (G.2.1 (F (F a 3) 0)))) := by
  first
    | (exfalso; rw [d_G34_a_17, e33] at hn39; omega)
    | exact Or.inr ⟨by omega, oq52⟩
theorem v_X10_mark_56_2 {K : Nat → Nat} {F : Nat → Nat → Nat} (a : Nat) (xq : Nat) (xj : Nat) (G34 : XG) (G : XG) (x33 : Int32)
    (ha : K a = 12)
    (hxk : K xq = 8)
    (hxj : F xq 99 = 4 + xj)
    (hxs : ((G.1 a 17).toInt) < 8 → G.2.2.1 (F a 7) (((G.1 a 17).toInt)).toNat = some xq)
    (e33 : x33.toInt = (((G.1 a 17).toInt) + (1 : Int)))
    (hn39 : ((G.1 a 17).toInt) < 0 ∨ ((G34.1 a 17).toInt) ≤ ((G.1 a 17).toInt) ∨ 8 ≤ ((G.1 a 17).toInt))
    (m0 : 0 ≤ ((G.1 a 17).toInt) ∧ ((G.1 a 17).toInt) ≤ 8)
    (f22 : ((G.1 a 18).toInt) = 0 ∨ ((G.1 a 18).toInt) = 1)
    (c4 : ((G.1 a 18).toInt) ≠ 0)
    (c16 : ((G.1 a 17).toInt) < (8 : Int))
    (d_G34_a_17 : G34.1 a 17 = x33) :
    RO (vw (G34.2.1 (F xq 0))) (aI (G34.2.1 (F xq 1))) := by
  first
    | (exfalso; rw [d_G34_a_17, e33] at hn39; omega)
    | exact oq52a
theorem v_X10_mark_42_3 {K : Nat → Nat} {F : Nat → Nat → Nat} (a : Nat) (xq : Nat) (xj : Nat) (q39 : Nat) (G : XG) (G34 : XG)
    (ha : K a = 12)
    (hxk : K xq = 8)
    (hxj : F xq 99 = 4 + xj)
    (f16 : F q39 99 = 4 + (((G.1 a 17).toInt)).toNat)
    (hxs : ((G.1 a 17).toInt) < 8 → G.2.2.1 (F a 7) (((G.1 a 17).toInt)).toNat = some xq)
    (hs39 : F q39 99 = 4 + (((G.1 a 17).toInt)).toNat ∧ G34.2.2.1 (F a 7) (((G.1 a 17).toInt)).toNat = some q39)
    (m0 : 0 ≤ ((G.1 a 17).toInt) ∧ ((G.1 a 17).toInt) ≤ 8)
    (f24 : ((G.1 a 18).toInt) = 0 ∨ ((G.1 a 18).toInt) = 1)
    (c4 : ((G.1 a 18).toInt) ≠ 0)
    (c16 : ((G.1 a 17).toInt) < (8 : Int))
    (ht39 : 0 ≤ ((G.1 a 17).toInt) ∧ ((G.1 a 17).toInt) < (((G.1 a 17).toInt) + (1 : Int)) ∧ ((G.1 a 17).toInt) < 8)
    (r_G34_F_a_7 : G34.2.2.1 (F a 7) = G.2.2.1 (F a 7)) :
    xq = q39 := by
  exact Option.some.inj ((hxs (by omega)).symm.trans (by rw [← r_G34_F_a_7]; exact hs39.2))
theorem v_X10_mark_52_4 {F : Nat → Nat → Nat} (a : Nat) (xq : Nat) (G34 : XG) (G : XG)
    (ron : RO (vw (G.2.1 (F (F a 3) 0))) (aI (G.2.1 (F (F a 3) 1))))
    (rox : RO (vw (G.2.1 (F xq 0))) (aI (G.2.1 (F xq 1))))
    (c_G34_F_F_a_3_0 : G34.2.1 (F (F a 3) 0) = G.2.1 (F (F a 3) 0))
    (c_G34_F_F_a_3_1 : G34.2.1 (F (F a 3) 1) = G.2.1 (F (F a 3) 1)) :
    RO (vw (G34.2.1 (F (F a 3) 0))) (aI (G34.2.1 (F (F a 3) 1))) := by simp only [c_G34_F_F_a_3_0, c_G34_F_F_a_3_1]; assumption
theorem v_X10_mark_56_5 {K : Nat → Nat} {F : Nat → Nat → Nat} (a : Nat) (xq : Nat) (xj : Nat) (G34 : XG) (G : XG) (x33 : Int32) (G52 : XG)
    (ha : K a = 12)
    (hxk : K xq = 8)
    (hxj : F xq 99 = 4 + xj)
    (hxs : ((G.1 a 17).toInt) < 8 → G.2.2.1 (F a 7) (((G.1 a 17).toInt)).toNat = some xq)
    (e33 : x33.toInt = (((G.1 a 17).toInt) + (1 : Int)))
    (hs39 : F xq 99 = 4 + (((G.1 a 17).toInt)).toNat ∧ G34.2.2.1 (F a 7) (((G.1 a 17).toInt)).toNat = some xq)
    (oq52 : (vw (G52.2.1 (F xq 0))) = (vw (G.2.1 (F (F a 3) 0))))
    (m0 : 0 ≤ ((G.1 a 17).toInt) ∧ ((G.1 a 17).toInt) ≤ 8)
    (f25 : ((G.1 a 18).toInt) = 0 ∨ ((G.1 a 18).toInt) = 1)
    (c4 : ((G.1 a 18).toInt) ≠ 0)
    (c16 : ((G.1 a 17).toInt) < (8 : Int))
    (ht39 : 0 ≤ ((G.1 a 17).toInt) ∧ ((G.1 a 17).toInt) < (((G.1 a 17).toInt) + (1 : Int)) ∧ ((G.1 a 17).toInt) < 8)
    (d_G34_a_17 : G34.1 a 17 = x33) :
    ((((G.1 a 18).toInt) = 0 ∨ 8 ≤ ((G.1 a 17).toInt)) ∧ G52.2.1 (F xq 0) = (G.2.1 (F xq 0)) ∧ G52.2.1 (F xq 1) = (G.2.1 (F xq 1))) ∨ ((((G.1 a 18).toInt) ≠ 0 ∧ ((G.1 a 17).toInt) < 8) ∧ (vw (G52.2.1 (F xq 0))) = (vw (G.2.1 (F (F a 3) 0)))) := by
  first
    | (exfalso; rw [d_G34_a_17, e33] at hn39; omega)
    | exact Or.inr ⟨by omega, oq52⟩
theorem v_X10_mark_56_6 {K : Nat → Nat} {F : Nat → Nat → Nat} (a : Nat) (xq : Nat) (xj : Nat) (G34 : XG) (G : XG) (x33 : Int32) (G52 : XG)
    (ha : K a = 12)
    (hxk : K xq = 8)
    (hxj : F xq 99 = 4 + xj)
    (hxs : ((G.1 a 17).toInt) < 8 → G.2.2.1 (F a 7) (((G.1 a 17).toInt)).toNat = some xq)
    (e33 : x33.toInt = (((G.1 a 17).toInt) + (1 : Int)))
    (hs39 : F xq 99 = 4 + (((G.1 a 17).toInt)).toNat ∧ G34.2.2.1 (F a 7) (((G.1 a 17).toInt)).toNat = some xq)
    (oq52a : RO (vw (G52.2.1 (F xq 0))) (aI (G52.2.1 (F xq 1))))
    (m0 : 0 ≤ ((G.1 a 17).toInt) ∧ ((G.1 a 17).toInt) ≤ 8)
    (f25 : ((G.1 a 18).toInt) = 0 ∨ ((G.1 a 18).toInt) = 1)
    (c4 : ((G.1 a 18).toInt) ≠ 0)
    (c16 : ((G.1 a 17).toInt) < (8 : Int))
    (ht39 : 0 ≤ ((G.1 a 17).toInt) ∧ ((G.1 a 17).toInt) < (((G.1 a 17).toInt) + (1 : Int)) ∧ ((G.1 a 17).toInt) < 8)
    (d_G34_a_17 : G34.1 a 17 = x33) :
    RO (vw (G52.2.1 (F xq 0))) (aI (G52.2.1 (F xq 1))) := by
  first
    | (exfalso; rw [d_G34_a_17, e33] at hn39; omega)
    | exact oq52a
theorem v_X10_mark_21_7 {K : Nat → Nat} {F : Nat → Nat → Nat} (a : Nat) (xq : Nat) (xj : Nat) (G : XG)
    (ha : K a = 12)
    (hxk : K xq = 8)
    (hxj : F xq 99 = 4 + xj)
    (hxs : ((G.1 a 17).toInt) < 8 → G.2.2.1 (F a 7) (((G.1 a 17).toInt)).toNat = some xq)
    (m0 : 0 ≤ ((G.1 a 17).toInt) ∧ ((G.1 a 17).toInt) ≤ 8)
    (f19 : ((G.1 a 18).toInt) = 0 ∨ ((G.1 a 18).toInt) = 1)
    (c4 : ((G.1 a 18).toInt) ≠ 0)
    (c16 : ¬ (((G.1 a 17).toInt) < (8 : Int))) :
    ((((G.1 a 18).toInt) = 0 ∨ 8 ≤ ((G.1 a 17).toInt)) ∧ G.2.1 (F xq 0) = (G.2.1 (F xq 0)) ∧ G.2.1 (F xq 1) = (G.2.1 (F xq 1))) ∨ ((((G.1 a 18).toInt) ≠ 0 ∧ ((G.1 a 17).toInt) < 8) ∧ (vw (G.2.1 (F xq 0))) = (vw (G.2.1 (F (F a 3) 0)))) := by
  exact Or.inl ⟨by omega, rfl, rfl⟩
theorem v_X10_mark_21_8 {F : Nat → Nat → Nat} (xq : Nat) (G : XG)
    (rox : RO (vw (G.2.1 (F xq 0))) (aI (G.2.1 (F xq 1)))) :
    RO (vw (G.2.1 (F xq 0))) (aI (G.2.1 (F xq 1))) := by
  exact rox
theorem v_X10_mark_9_9 {K : Nat → Nat} {F : Nat → Nat → Nat} (a : Nat) (xq : Nat) (xj : Nat) (G : XG)
    (ha : K a = 12)
    (hxk : K xq = 8)
    (hxj : F xq 99 = 4 + xj)
    (hxs : ((G.1 a 17).toInt) < 8 → G.2.2.1 (F a 7) (((G.1 a 17).toInt)).toNat = some xq)
    (m0 : 0 ≤ ((G.1 a 17).toInt) ∧ ((G.1 a 17).toInt) ≤ 8)
    (f19 : ((G.1 a 18).toInt) = 0 ∨ ((G.1 a 18).toInt) = 1)
    (c4 : ¬ (((G.1 a 18).toInt) ≠ 0)) :
    ((((G.1 a 18).toInt) = 0 ∨ 8 ≤ ((G.1 a 17).toInt)) ∧ G.2.1 (F xq 0) = (G.2.1 (F xq 0)) ∧ G.2.1 (F xq 1) = (G.2.1 (F xq 1))) ∨ ((((G.1 a 18).toInt) ≠ 0 ∧ ((G.1 a 17).toInt) < 8) ∧ (vw (G.2.1 (F xq 0))) = (vw (G.2.1 (F (F a 3) 0)))) := by
  exact Or.inl ⟨by omega, rfl, rfl⟩
theorem v_X10_mark_9_10 {F : Nat → Nat → Nat} (xq : Nat) (G : XG)
    (rox : RO (vw (G.2.1 (F xq 0))) (aI (G.2.1 (F xq 1)))) :
    RO (vw (G.2.1 (F xq 0))) (aI (G.2.1 (F xq 1))) := by
  exact rox
theorem v_X10_later_22_1 {F : Nat → Nat → Nat} (a : Nat) (G : XG) (G4 : XG) (p0 : Int32) (xq : Nat) (p1 : Int32)
    (hn12 : (p0.toInt < 0 ∨ 12 ≤ p0.toInt) ∨ G4.2.2.1 (F (F a 2) 0) (p0.toInt).toNat = none)
    (c_G4_F_F_a_8_0 : G4.2.1 (F (F a 8) 0) = G.2.1 (F (F a 8) 0))
    (c_G4_F_F_a_8_1 : G4.2.1 (F (F a 8) 1) = G.2.1 (F (F a 8) 1))
    (c_G4_F_F_a_8_2 : G4.2.1 (F (F a 8) 2) = G.2.1 (F (F a 8) 2))
    (c_G4_F_F_a_8_3 : G4.2.1 (F (F a 8) 3) = G.2.1 (F (F a 8) 3))
    (c_G4_F_F_a_8_4 : G4.2.1 (F (F a 8) 4) = G.2.1 (F (F a 8) 4))
    (c_G4_F_F_a_8_5 : G4.2.1 (F (F a 8) 5) = G.2.1 (F (F a 8) 5))
    (r_G4_F_F_a_2_0 : G4.2.2.1 (F (F a 2) 0) = G.2.2.1 (F (F a 2) 0))
    (d_G4_F_a_8_6 : G4.1 (F a 8) 6 = G.1 (F a 8) 6) :
    (((p0.toInt < 0 ∨ 12 ≤ p0.toInt) ∨ G.2.2.1 (F (F a 2) 0) (p0.toInt).toNat = none) ∧ (-2 : Int) = -2 ∧ qL G4 F (F a 8) = qL G F (F a 8)) ∨ (((0 ≤ p0.toInt ∧ p0.toInt < 12) ∧ G.2.2.1 (F (F a 2) 0) (p0.toInt).toNat = some xq) ∧ ((G.1 xq 9).toInt) = p1.toInt ∧ (-2 : Int) = -4 ∧ (((G4.1 xq 9).toInt) = ((G.1 xq 9).toInt) ∧ qL G4 F (F a 8) = qL G F (F a 8))) ∨ (((0 ≤ p0.toInt ∧ p0.toInt < 12) ∧ G.2.2.1 (F (F a 2) 0) (p0.toInt).toNat = some xq) ∧ ((G.1 xq 9).toInt) ≠ p1.toInt ∧ p1.toInt ≠ 0 ∧ ((G4.1 xq 9).toInt) = 1 ∧ ((((G.1 a 18).toInt) = 0 ∧ qL G4 F (F a 8) = qL G F (F a 8) ∧ (-2 : Int) = 0) ∨ (((G.1 a 18).toInt) ≠ 0 ∧ qL G4 F (F a 8) = (gaL (dput G xq 9 1) (G.2.2.1 (F (F a 2) 1)) (vw (G.2.1 (F (F a 4) 0))) (vw (G.2.1 (F (F a 3) 0))) 1 (((G.1 (F a 2) 2).toInt)).toNat) ∧ (-2 : Int) = cnQ (qL G4 F (F a 8)) ((G.1 xq 1).toInt)))) ∨ (((0 ≤ p0.toInt ∧ p0.toInt < 12) ∧ G.2.2.1 (F (F a 2) 0) (p0.toInt).toNat = some xq) ∧ ((G.1 xq 9).toInt) ≠ p1.toInt ∧ p1.toInt = 0 ∧ (((∃ x, x ∈ qL G F (F a 8) ∧ x.1 = ((G.1 xq 1).toInt) ∧ x.2.2.2.2.2 ≠ 0) ∧ (-2 : Int) = -5 ∧ (((G4.1 xq 9).toInt) = ((G.1 xq 9).toInt) ∧ qL G4 F (F a 8) = qL G F (F a 8))) ∨ ((∀ x, x ∈ qL G F (F a 8) → x.1 = ((G.1 xq 1).toInt) → x.2.2.2.2.2 = 0) ∧ ((G4.1 xq 9).toInt) = 0 ∧ ((((G.1 a 18).toInt) = 0 ∧ qL G4 F (F a 8) = qL G F (F a 8) ∧ (-2 : Int) = 0) ∨ (((G.1 a 18).toInt) ≠ 0 ∧ qL G4 F (F a 8) = (gaL (dput G xq 9 0) (G.2.2.1 (F (F a 2) 1)) (vw (G.2.1 (F (F a 4) 0))) (vw (G.2.1 (F (F a 3) 0))) 1 (((G.1 (F a 2) 2).toInt)).toNat) ∧ (-2 : Int) = cnQ (qL G F (F a 8)) ((G.1 xq 1).toInt)))))) := by
  exact Or.inl ⟨by rw [← r_G4_F_F_a_2_0]; exact hn12, rfl, qL_cg d_G4_F_a_8_6 c_G4_F_F_a_8_0 c_G4_F_F_a_8_1 c_G4_F_F_a_8_2 c_G4_F_F_a_8_3 c_G4_F_F_a_8_4 c_G4_F_F_a_8_5⟩
theorem v_X10_later_15_2 {K : Nat → Nat} {F : Nat → Nat → Nat} (a : Nat) (q12 : Nat) (G : XG) (G4 : XG) (p0 : Int32) (xq : Nat)
    (ha : K a = 12)
    (hxs : 0 ≤ p0.toInt → p0.toInt < 12 → ∀ q : Nat, G.2.2.1 (F (F a 2) 0) (p0.toInt).toNat = some q → q = xq)
    (hs12 : G4.2.2.1 (F (F a 2) 0) (p0.toInt).toNat = some q12)
    (sb : 0 ≤ ((G.1 (F a 2) 2).toInt) ∧ ((G.1 (F a 2) 2).toInt) ≤ 12)
    (sw : 0 ≤ ((G.1 (F a 8) 6).toInt) ∧ ((G.1 (F a 8) 6).toInt) ≤ 1080)
    (t4 : ((G4.1 (F a 14) 1).toInt) = 0)
    (ht12 : 0 ≤ p0.toInt ∧ p0.toInt < 12)
    (r_G4_F_F_a_2_0 : G4.2.2.1 (F (F a 2) 0) = G.2.2.1 (F (F a 2) 0)) :
    xq = q12 := by
  exact (hxs (by omega) (by omega) q12 (by rw [← r_G4_F_F_a_2_0]; exact hs12)).symm
theorem v_X10_later_46_3 {F : Nat → Nat → Nat} (a : Nat) (G : XG) (G4 : XG)
    (ron : RO (vw (G.2.1 (F (F a 3) 0))) (aI (G.2.1 (F (F a 3) 1))))
    (rob : RO (vw (G.2.1 (F (F a 4) 0))) (aI (G.2.1 (F (F a 4) 1))))
    (c_G4_F_F_a_3_0 : G4.2.1 (F (F a 3) 0) = G.2.1 (F (F a 3) 0))
    (c_G4_F_F_a_3_1 : G4.2.1 (F (F a 3) 1) = G.2.1 (F (F a 3) 1)) :
    RO (vw (G4.2.1 (F (F a 3) 0))) (aI (G4.2.1 (F (F a 3) 1))) := by simp only [c_G4_F_F_a_3_0, c_G4_F_F_a_3_1]; assumption
theorem v_X10_later_46_4 {F : Nat → Nat → Nat} (a : Nat) (G : XG) (G4 : XG)
    (ron : RO (vw (G.2.1 (F (F a 3) 0))) (aI (G.2.1 (F (F a 3) 1))))
    (rob : RO (vw (G.2.1 (F (F a 4) 0))) (aI (G.2.1 (F (F a 4) 1))))
    (c_G4_F_F_a_4_0 : G4.2.1 (F (F a 4) 0) = G.2.1 (F (F a 4) 0))
    (c_G4_F_F_a_4_1 : G4.2.1 (F (F a 4) 1) = G.2.1 (F (F a 4) 1)) :
    RO (vw (G4.2.1 (F (F a 4) 0))) (aI (G4.2.1 (F (F a 4) 1))) := by simp only [c_G4_F_F_a_4_0, c_G4_F_F_a_4_1]; assumption
theorem v_X10_later_46_5 {K : Nat → Nat} {F : Nat → Nat → Nat} (a : Nat) (xq : Nat) (G : XG) (G4 : XG) (p0 : Int32) (p1 : Int32)
    (ha : K a = 12)
    (hk9999 : K (F a 14) = 11)
    (hj9999 : F (F a 14) 99 = 0)
    (hk9999a : K (F a 11) = 3)
    (hj9999a : F (F a 11) 99 = 0)
    (hk9999b : K (F a 8) = 6)
    (hj9999b : F (F a 8) 99 = 0)
    (hk9999c : K (F a 16) = 27)
    (hj9999c : F (F a 16) 99 = 0)
    (hk9999d : K (F a 15) = 26)
    (hj9999d : F (F a 15) 99 = 0)
    (hk9999e : K (F (F a 11) 0) = 21)
    (hj9999e : F (F (F a 11) 0) 99 = 100)
    (hk9999f : K (F (F a 11) 1) = 21)
    (hj9999f : F (F (F a 11) 1) 99 = 101)
    (hk9999g : K (F (F a 11) 2) = 24)
    (hj9999g : F (F (F a 11) 2) 99 = 4)
    (hk9999h : K (F (F a 8) 0) = 22)
    (hj9999i : F (F (F a 8) 0) 99 = 10 * 0 + 0)
    (hk9999i : K (F (F a 8) 1) = 22)
    (hj9999k : F (F (F a 8) 1) 99 = 10 * 0 + 1)
    (hk9999j : K (F (F a 8) 2) = 22)
    (hj9999m : F (F (F a 8) 2) 99 = 10 * 0 + 2)
    (hk9999k : K (F (F a 8) 3) = 22)
    (hj9999o : F (F (F a 8) 3) 99 = 10 * 0 + 3)
    (hk9999l : K (F (F a 8) 4) = 23)
    (hj9999q : F (F (F a 8) 4) 99 = 10 * 0 + 4)
    (hk9999m : K (F (F a 8) 5) = 23)
    (hj9999s : F (F (F a 8) 5) 99 = 10 * 0 + 5)
    (hk9999n : K (F a 2) = 2)
    (hj9999t : F (F a 2) 99 = 0)
    (hk9999o : K (F (F a 2) 0) = 15)
    (hj9999u : F (F (F a 2) 0) 99 = 0)
    (hk9999p : K (F (F a 2) 1) = 15)
    (hj9999v : F (F (F a 2) 1) 99 = 1)
    (hk9999q : K (F a 4) = 8)
    (hj9999w : F (F a 4) 99 = 1)
    (hk9999r : K (F (F a 4) 0) = 20)
    (hj9999z25 : F (F (F a 4) 0) 99 = 1)
    (hk9999s : K (F (F a 4) 1) = 21)
    (hj9999z27 : F (F (F a 4) 1) 99 = 1)
    (hk9999t : K (F a 3) = 8)
    (hj9999z28 : F (F a 3) 99 = 0)
    (hk9999u : K (F (F a 3) 0) = 20)
    (hj9999z30 : F (F (F a 3) 0) 99 = 0)
    (hk9999v : K (F (F a 3) 1) = 21)
    (hj9999z32 : F (F (F a 3) 1) 99 = 0)
    (hk12 : K xq = 9)
    (hF4 : XFr [(F a 14, 1)] [] [] G G4)
    (hxs : 0 ≤ p0.toInt → p0.toInt < 12 → ∀ q : Nat, G.2.2.1 (F (F a 2) 0) (p0.toInt).toNat = some q → q = xq)
    (bko : BKr K G (G.2.2.1 (F (F a 2) 1)))
    (hs12 : G4.2.2.1 (F (F a 2) 0) (p0.toInt).toNat = some xq)
    (sb : 0 ≤ ((G.1 (F a 2) 2).toInt) ∧ ((G.1 (F a 2) 2).toInt) ≤ 12)
    (sw : 0 ≤ ((G.1 (F a 8) 6).toInt) ∧ ((G.1 (F a 8) 6).toInt) ≤ 1080)
    (t4 : ((G4.1 (F a 14) 1).toInt) = 0)
    (ht12 : 0 ≤ p0.toInt ∧ p0.toInt < 12)
    (f58 : ((G.1 xq 9).toInt) = 0 ∨ ((G.1 xq 9).toInt) = 1)
    (c28 : ((G.1 xq 9).toInt) ≠ p1.toInt)
    (c35 : p1.toInt = 0)
    (r_G4_F_F_a_2_1 : G4.2.2.1 (F (F a 2) 1) = G.2.2.1 (F (F a 2) 1)) :
    BKr K G4 (G4.2.2.1 (F (F a 2) 1)) := by
  rw [r_G4_F_F_a_2_1]
  exact bko.fr hF4 (List.forall_mem_cons.mpr ⟨(show K (F a 14) ≠ 9 by omega), fun _ h => by cases h⟩)
theorem v_X10_later_49_6 {K : Nat → Nat} {F : Nat → Nat → Nat} (a : Nat) (xq : Nat) (G : XG) (G4 : XG) (G46 : XG) (p0 : Int32) (x46 : Int32) (p1 : Int32)
    (ha : K a = 12)
    (hk9999 : K (F a 14) = 11)
    (hj9999 : F (F a 14) 99 = 0)
    (hk9999a : K (F a 11) = 3)
    (hj9999a : F (F a 11) 99 = 0)
    (hk9999b : K (F a 8) = 6)
    (hj9999b : F (F a 8) 99 = 0)
    (hk9999c : K (F a 16) = 27)
    (hj9999c : F (F a 16) 99 = 0)
    (hk9999d : K (F a 15) = 26)
    (hj9999d : F (F a 15) 99 = 0)
    (hk9999e : K (F (F a 11) 0) = 21)
    (hj9999e : F (F (F a 11) 0) 99 = 100)
    (hk9999f : K (F (F a 11) 1) = 21)
    (hj9999f : F (F (F a 11) 1) 99 = 101)
    (hk9999g : K (F (F a 11) 2) = 24)
    (hj9999g : F (F (F a 11) 2) 99 = 4)
    (hk9999h : K (F (F a 8) 0) = 22)
    (hj9999i : F (F (F a 8) 0) 99 = 10 * 0 + 0)
    (hk9999i : K (F (F a 8) 1) = 22)
    (hj9999k : F (F (F a 8) 1) 99 = 10 * 0 + 1)
    (hk9999j : K (F (F a 8) 2) = 22)
    (hj9999m : F (F (F a 8) 2) 99 = 10 * 0 + 2)
    (hk9999k : K (F (F a 8) 3) = 22)
    (hj9999o : F (F (F a 8) 3) 99 = 10 * 0 + 3)
    (hk9999l : K (F (F a 8) 4) = 23)
    (hj9999q : F (F (F a 8) 4) 99 = 10 * 0 + 4)
    (hk9999m : K (F (F a 8) 5) = 23)
    (hj9999s : F (F (F a 8) 5) 99 = 10 * 0 + 5)
    (hk9999n : K (F a 2) = 2)
    (hj9999t : F (F a 2) 99 = 0)
    (hk9999o : K (F (F a 2) 0) = 15)
    (hj9999u : F (F (F a 2) 0) 99 = 0)
    (hk9999p : K (F (F a 2) 1) = 15)
    (hj9999v : F (F (F a 2) 1) 99 = 1)
    (hk9999q : K (F a 4) = 8)
    (hj9999w : F (F a 4) 99 = 1)
    (hk9999r : K (F (F a 4) 0) = 20)
    (hj9999z25 : F (F (F a 4) 0) 99 = 1)
    (hk9999s : K (F (F a 4) 1) = 21)
    (hj9999z27 : F (F (F a 4) 1) 99 = 1)
    (hk9999t : K (F a 3) = 8)
    (hj9999z28 : F (F a 3) 99 = 0)
    (hk9999u : K (F (F a 3) 0) = 20)
    (hj9999z30 : F (F (F a 3) 0) 99 = 0)
    (hk9999v : K (F (F a 3) 1) = 21)
    (hj9999z32 : F (F (F a 3) 1) 99 = 0)
    (hk12 : K xq = 9)
    (hF4 : XFr [(F a 14, 1)] [] [] G G4)
    (hxs : 0 ≤ p0.toInt → p0.toInt < 12 → ∀ q : Nat, G.2.2.1 (F (F a 2) 0) (p0.toInt).toNat = some q → q = xq)
    (bko : BKr K G (G.2.2.1 (F (F a 2) 1)))
    (hs12 : G4.2.2.1 (F (F a 2) 0) (p0.toInt).toNat = some xq)
    (oq46 : ((∃ x, x ∈ qL G4 F (F a 8) ∧ x.1 = ((G.1 xq 1).toInt) ∧ x.2.2.2.2.2 ≠ 0) ∧ x46.toInt = -5 ∧ ((G46.1 xq 9).toInt) = ((G.1 xq 9).toInt) ∧ qL G46 F (F a 8) = qL G4 F (F a 8)) ∨ ((∀ x, x ∈ qL G4 F (F a 8) → x.1 = ((G.1 xq 1).toInt) → x.2.2.2.2.2 = 0) ∧ ((G46.1 xq 9).toInt) = 0 ∧ ((((G.1 a 18).toInt) = 0 ∧ qL G46 F (F a 8) = qL G4 F (F a 8) ∧ x46.toInt = 0) ∨ (((G.1 a 18).toInt) ≠ 0 ∧ qL G46 F (F a 8) = (gaL (dput G4 xq 9 0) (G4.2.2.1 (F (F a 2) 1)) (vw (G.2.1 (F (F a 4) 0))) (vw (G.2.1 (F (F a 3) 0))) 1 (((G.1 (F a 2) 2).toInt)).toNat) ∧ x46.toInt = cnQ (qL G4 F (F a 8)) ((G.1 xq 1).toInt)))))
    (sb : 0 ≤ ((G.1 (F a 2) 2).toInt) ∧ ((G.1 (F a 2) 2).toInt) ≤ 12)
    (sw : 0 ≤ ((G.1 (F a 8) 6).toInt) ∧ ((G.1 (F a 8) 6).toInt) ≤ 1080)
    (t4 : ((G4.1 (F a 14) 1).toInt) = 0)
    (ht12 : 0 ≤ p0.toInt ∧ p0.toInt < 12)
    (f60 : ((G.1 xq 9).toInt) = 0 ∨ ((G.1 xq 9).toInt) = 1)
    (c28 : ((G.1 xq 9).toInt) ≠ p1.toInt)
    (c35 : p1.toInt = 0)
    (t46 : 0 ≤ ((G46.1 (F a 8) 6).toInt) ∧ ((G46.1 (F a 8) 6).toInt) ≤ 1080)
    (c_G4_F_F_a_8_0 : G4.2.1 (F (F a 8) 0) = G.2.1 (F (F a 8) 0))
    (c_G4_F_F_a_8_1 : G4.2.1 (F (F a 8) 1) = G.2.1 (F (F a 8) 1))
    (c_G4_F_F_a_8_2 : G4.2.1 (F (F a 8) 2) = G.2.1 (F (F a 8) 2))
    (c_G4_F_F_a_8_3 : G4.2.1 (F (F a 8) 3) = G.2.1 (F (F a 8) 3))
    (c_G4_F_F_a_8_4 : G4.2.1 (F (F a 8) 4) = G.2.1 (F (F a 8) 4))
    (c_G4_F_F_a_8_5 : G4.2.1 (F (F a 8) 5) = G.2.1 (F (F a 8) 5))
    (r_G4_F_F_a_2_0 : G4.2.2.1 (F (F a 2) 0) = G.2.2.1 (F (F a 2) 0))
    (r_G4_F_F_a_2_1 : G4.2.2.1 (F (F a 2) 1) = G.2.2.1 (F (F a 2) 1))
    (d_G4_F_a_8_6 : G4.1 (F a 8) 6 = G.1 (F a 8) 6) :
    (((p0.toInt < 0 ∨ 12 ≤ p0.toInt) ∨ G.2.2.1 (F (F a 2) 0) (p0.toInt).toNat = none) ∧ x46.toInt = -2 ∧ qL G46 F (F a 8) = qL G F (F a 8)) ∨ (((0 ≤ p0.toInt ∧ p0.toInt < 12) ∧ G.2.2.1 (F (F a 2) 0) (p0.toInt).toNat = some xq) ∧ ((G.1 xq 9).toInt) = p1.toInt ∧ x46.toInt = -4 ∧ (((G46.1 xq 9).toInt) = ((G.1 xq 9).toInt) ∧ qL G46 F (F a 8) = qL G F (F a 8))) ∨ (((0 ≤ p0.toInt ∧ p0.toInt < 12) ∧ G.2.2.1 (F (F a 2) 0) (p0.toInt).toNat = some xq) ∧ ((G.1 xq 9).toInt) ≠ p1.toInt ∧ p1.toInt ≠ 0 ∧ ((G46.1 xq 9).toInt) = 1 ∧ ((((G.1 a 18).toInt) = 0 ∧ qL G46 F (F a 8) = qL G F (F a 8) ∧ x46.toInt = 0) ∨ (((G.1 a 18).toInt) ≠ 0 ∧ qL G46 F (F a 8) = (gaL (dput G xq 9 1) (G.2.2.1 (F (F a 2) 1)) (vw (G.2.1 (F (F a 4) 0))) (vw (G.2.1 (F (F a 3) 0))) 1 (((G.1 (F a 2) 2).toInt)).toNat) ∧ x46.toInt = cnQ (qL G46 F (F a 8)) ((G.1 xq 1).toInt)))) ∨ (((0 ≤ p0.toInt ∧ p0.toInt < 12) ∧ G.2.2.1 (F (F a 2) 0) (p0.toInt).toNat = some xq) ∧ ((G.1 xq 9).toInt) ≠ p1.toInt ∧ p1.toInt = 0 ∧ (((∃ x, x ∈ qL G F (F a 8) ∧ x.1 = ((G.1 xq 1).toInt) ∧ x.2.2.2.2.2 ≠ 0) ∧ x46.toInt = -5 ∧ (((G46.1 xq 9).toInt) = ((G.1 xq 9).toInt) ∧ qL G46 F (F a 8) = qL G F (F a 8))) ∨ ((∀ x, x ∈ qL G F (F a 8) → x.1 = ((G.1 xq 1).toInt) → x.2.2.2.2.2 = 0) ∧ ((G46.1 xq 9).toInt) = 0 ∧ ((((G.1 a 18).toInt) = 0 ∧ qL G46 F (F a 8) = qL G F (F a 8) ∧ x46.toInt = 0) ∨ (((G.1 a 18).toInt) ≠ 0 ∧ qL G46 F (F a 8) = (gaL (dput G xq 9 0) (G.2.2.1 (F (F a 2) 1)) (vw (G.2.1 (F (F a 4) 0))) (vw (G.2.1 (F (F a 3) 0))) 1 (((G.1 (F a 2) 2).toInt)).toNat) ∧ x46.toInt = cnQ (qL G F (F a 8)) ((G.1 xq 1).toInt)))))) := by
  have hq : G.2.2.1 (F (F a 2) 0) (p0.toInt).toNat = some xq := by rw [← r_G4_F_F_a_2_0]; exact hs12
  have e4 : qL G4 F (F a 8) = qL G F (F a 8) := qL_cg d_G4_F_a_8_6 c_G4_F_F_a_8_0 c_G4_F_F_a_8_1 c_G4_F_F_a_8_2 c_G4_F_F_a_8_3 c_G4_F_F_a_8_4 c_G4_F_F_a_8_5
  have h4 : ∀ q : Nat, K q = 9 → G4.1 q = G.1 q := fun q hk => hF4.rule (List.forall_mem_cons.mpr ⟨(show K (F a 14) ≠ 9 by omega), fun _ h => by cases h⟩) hk
  have g4 : ∀ v : Int32, gaL (dput G4 xq 9 v) (G4.2.2.1 (F (F a 2) 1)) (vw (G.2.1 (F (F a 4) 0))) (vw (G.2.1 (F (F a 3) 0))) 1 ((G.1 (F a 2) 2).toInt).toNat = gaL (dput G xq 9 v) (G.2.2.1 (F (F a 2) 1)) (vw (G.2.1 (F (F a 4) 0))) (vw (G.2.1 (F (F a 3) 0))) 1 ((G.1 (F a 2) 2).toInt).toNat := fun v => by
    rw [r_G4_F_F_a_2_1]
    refine gaL_cg (fun i q hi hq => ?_)
    have hk := (bko i q (by omega) hq).1
    funext j
    show up2 G4.1 xq 9 v q j = up2 G.1 xq 9 v q j
    unfold up2
    rw [h4 q hk]
  refine Or.inr (Or.inr (Or.inr ⟨⟨by omega, hq⟩, by omega, by omega, ?_⟩))
  rw [e4] at oq46
  rcases oq46 with ⟨a1, a2, a3, a4⟩ | ⟨a1, a2, a3⟩
  · exact Or.inl ⟨a1, a2, a3, a4⟩
  · refine Or.inr ⟨a1, a2, ?_⟩
    rcases a3 with ⟨b1, b2, b3⟩ | ⟨b1, b2, b3⟩
    · exact Or.inl ⟨by omega, b2, b3⟩
    · exact Or.inr ⟨by omega, b2.trans (g4 0), b3⟩
theorem v_X10_later_40_7 {F : Nat → Nat → Nat} (a : Nat) (G : XG) (G4 : XG)
    (ron : RO (vw (G.2.1 (F (F a 3) 0))) (aI (G.2.1 (F (F a 3) 1))))
    (rob : RO (vw (G.2.1 (F (F a 4) 0))) (aI (G.2.1 (F (F a 4) 1))))
    (c_G4_F_F_a_3_0 : G4.2.1 (F (F a 3) 0) = G.2.1 (F (F a 3) 0))
    (c_G4_F_F_a_3_1 : G4.2.1 (F (F a 3) 1) = G.2.1 (F (F a 3) 1)) :
    RO (vw (G4.2.1 (F (F a 3) 0))) (aI (G4.2.1 (F (F a 3) 1))) := by simp only [c_G4_F_F_a_3_0, c_G4_F_F_a_3_1]; assumption
theorem v_X10_later_40_8 {F : Nat → Nat → Nat} (a : Nat) (G : XG) (G4 : XG)
    (ron : RO (vw (G.2.1 (F (F a 3) 0))) (aI (G.2.1 (F (F a 3) 1))))
    (rob : RO (vw (G.2.1 (F (F a 4) 0))) (aI (G.2.1 (F (F a 4) 1))))
    (c_G4_F_F_a_4_0 : G4.2.1 (F (F a 4) 0) = G.2.1 (F (F a 4) 0))
    (c_G4_F_F_a_4_1 : G4.2.1 (F (F a 4) 1) = G.2.1 (F (F a 4) 1)) :
    RO (vw (G4.2.1 (F (F a 4) 0))) (aI (G4.2.1 (F (F a 4) 1))) := by simp only [c_G4_F_F_a_4_0, c_G4_F_F_a_4_1]; assumption
theorem v_X10_later_40_9 {K : Nat → Nat} {F : Nat → Nat → Nat} (a : Nat) (xq : Nat) (G : XG) (G4 : XG) (p0 : Int32) (p1 : Int32)
    (ha : K a = 12)
    (hk9999 : K (F a 14) = 11)
    (hj9999 : F (F a 14) 99 = 0)
    (hk9999a : K (F a 11) = 3)
    (hj9999a : F (F a 11) 99 = 0)
    (hk9999b : K (F a 8) = 6)
    (hj9999b : F (F a 8) 99 = 0)
    (hk9999c : K (F a 16) = 27)
    (hj9999c : F (F a 16) 99 = 0)
    (hk9999d : K (F a 15) = 26)
    (hj9999d : F (F a 15) 99 = 0)
    (hk9999e : K (F (F a 11) 0) = 21)
    (hj9999e : F (F (F a 11) 0) 99 = 100)
    (hk9999f : K (F (F a 11) 1) = 21)
    (hj9999f : F (F (F a 11) 1) 99 = 101)
    (hk9999g : K (F (F a 11) 2) = 24)
    (hj9999g : F (F (F a 11) 2) 99 = 4)
    (hk9999h : K (F (F a 8) 0) = 22)
    (hj9999i : F (F (F a 8) 0) 99 = 10 * 0 + 0)
    (hk9999i : K (F (F a 8) 1) = 22)
    (hj9999k : F (F (F a 8) 1) 99 = 10 * 0 + 1)
    (hk9999j : K (F (F a 8) 2) = 22)
    (hj9999m : F (F (F a 8) 2) 99 = 10 * 0 + 2)
    (hk9999k : K (F (F a 8) 3) = 22)
    (hj9999o : F (F (F a 8) 3) 99 = 10 * 0 + 3)
    (hk9999l : K (F (F a 8) 4) = 23)
    (hj9999q : F (F (F a 8) 4) 99 = 10 * 0 + 4)
    (hk9999m : K (F (F a 8) 5) = 23)
    (hj9999s : F (F (F a 8) 5) 99 = 10 * 0 + 5)
    (hk9999n : K (F a 2) = 2)
    (hj9999t : F (F a 2) 99 = 0)
    (hk9999o : K (F (F a 2) 0) = 15)
    (hj9999u : F (F (F a 2) 0) 99 = 0)
    (hk9999p : K (F (F a 2) 1) = 15)
    (hj9999v : F (F (F a 2) 1) 99 = 1)
    (hk9999q : K (F a 4) = 8)
    (hj9999w : F (F a 4) 99 = 1)
    (hk9999r : K (F (F a 4) 0) = 20)
    (hj9999z25 : F (F (F a 4) 0) 99 = 1)
    (hk9999s : K (F (F a 4) 1) = 21)
    (hj9999z27 : F (F (F a 4) 1) 99 = 1)
    (hk9999t : K (F a 3) = 8)
    (hj9999z28 : F (F a 3) 99 = 0)
    (hk9999u : K (F (F a 3) 0) = 20)
    (hj9999z30 : F (F (F a 3) 0) 99 = 0)
    (hk9999v : K (F (F a 3) 1) = 21)
    (hj9999z32 : F (F (F a 3) 1) 99 = 0)
    (hk12 : K xq = 9)
    (hF4 : XFr [(F a 14, 1)] [] [] G G4)
    (hxs : 0 ≤ p0.toInt → p0.toInt < 12 → ∀ q : Nat, G.2.2.1 (F (F a 2) 0) (p0.toInt).toNat = some q → q = xq)
    (bko : BKr K G (G.2.2.1 (F (F a 2) 1)))
    (hs12 : G4.2.2.1 (F (F a 2) 0) (p0.toInt).toNat = some xq)
    (sb : 0 ≤ ((G.1 (F a 2) 2).toInt) ∧ ((G.1 (F a 2) 2).toInt) ≤ 12)
    (sw : 0 ≤ ((G.1 (F a 8) 6).toInt) ∧ ((G.1 (F a 8) 6).toInt) ≤ 1080)
    (t4 : ((G4.1 (F a 14) 1).toInt) = 0)
    (ht12 : 0 ≤ p0.toInt ∧ p0.toInt < 12)
    (f58 : ((G.1 xq 9).toInt) = 0 ∨ ((G.1 xq 9).toInt) = 1)
    (c28 : ((G.1 xq 9).toInt) ≠ p1.toInt)
    (c35 : ¬ (p1.toInt = 0))
    (r_G4_F_F_a_2_1 : G4.2.2.1 (F (F a 2) 1) = G.2.2.1 (F (F a 2) 1)) :
    BKr K G4 (G4.2.2.1 (F (F a 2) 1)) := by
  rw [r_G4_F_F_a_2_1]
  exact bko.fr hF4 (List.forall_mem_cons.mpr ⟨(show K (F a 14) ≠ 9 by omega), fun _ h => by cases h⟩)
theorem v_X10_later_43_10 {K : Nat → Nat} {F : Nat → Nat → Nat} (a : Nat) (xq : Nat) (G : XG) (G4 : XG) (G40 : XG) (p0 : Int32) (x40 : Int32) (p1 : Int32)
    (ha : K a = 12)
    (hk9999 : K (F a 14) = 11)
    (hj9999 : F (F a 14) 99 = 0)
    (hk9999a : K (F a 11) = 3)
    (hj9999a : F (F a 11) 99 = 0)
    (hk9999b : K (F a 8) = 6)
    (hj9999b : F (F a 8) 99 = 0)
    (hk9999c : K (F a 16) = 27)
    (hj9999c : F (F a 16) 99 = 0)
    (hk9999d : K (F a 15) = 26)
    (hj9999d : F (F a 15) 99 = 0)
    (hk9999e : K (F (F a 11) 0) = 21)
    (hj9999e : F (F (F a 11) 0) 99 = 100)
    (hk9999f : K (F (F a 11) 1) = 21)
    (hj9999f : F (F (F a 11) 1) 99 = 101)
    (hk9999g : K (F (F a 11) 2) = 24)
    (hj9999g : F (F (F a 11) 2) 99 = 4)
    (hk9999h : K (F (F a 8) 0) = 22)
    (hj9999i : F (F (F a 8) 0) 99 = 10 * 0 + 0)
    (hk9999i : K (F (F a 8) 1) = 22)
    (hj9999k : F (F (F a 8) 1) 99 = 10 * 0 + 1)
    (hk9999j : K (F (F a 8) 2) = 22)
    (hj9999m : F (F (F a 8) 2) 99 = 10 * 0 + 2)
    (hk9999k : K (F (F a 8) 3) = 22)
    (hj9999o : F (F (F a 8) 3) 99 = 10 * 0 + 3)
    (hk9999l : K (F (F a 8) 4) = 23)
    (hj9999q : F (F (F a 8) 4) 99 = 10 * 0 + 4)
    (hk9999m : K (F (F a 8) 5) = 23)
    (hj9999s : F (F (F a 8) 5) 99 = 10 * 0 + 5)
    (hk9999n : K (F a 2) = 2)
    (hj9999t : F (F a 2) 99 = 0)
    (hk9999o : K (F (F a 2) 0) = 15)
    (hj9999u : F (F (F a 2) 0) 99 = 0)
    (hk9999p : K (F (F a 2) 1) = 15)
    (hj9999v : F (F (F a 2) 1) 99 = 1)
    (hk9999q : K (F a 4) = 8)
    (hj9999w : F (F a 4) 99 = 1)
    (hk9999r : K (F (F a 4) 0) = 20)
    (hj9999z25 : F (F (F a 4) 0) 99 = 1)
    (hk9999s : K (F (F a 4) 1) = 21)
    (hj9999z27 : F (F (F a 4) 1) 99 = 1)
    (hk9999t : K (F a 3) = 8)
    (hj9999z28 : F (F a 3) 99 = 0)
    (hk9999u : K (F (F a 3) 0) = 20)
    (hj9999z30 : F (F (F a 3) 0) 99 = 0)
    (hk9999v : K (F (F a 3) 1) = 21)
    (hj9999z32 : F (F (F a 3) 1) 99 = 0)
    (hk12 : K xq = 9)
    (hF4 : XFr [(F a 14, 1)] [] [] G G4)
    (hxs : 0 ≤ p0.toInt → p0.toInt < 12 → ∀ q : Nat, G.2.2.1 (F (F a 2) 0) (p0.toInt).toNat = some q → q = xq)
    (bko : BKr K G (G.2.2.1 (F (F a 2) 1)))
    (hs12 : G4.2.2.1 (F (F a 2) 0) (p0.toInt).toNat = some xq)
    (oq40 : (((G.1 a 18).toInt) = 0 ∧ qL G40 F (F a 8) = qL G4 F (F a 8) ∧ x40.toInt = 0) ∨ (((G.1 a 18).toInt) ≠ 0 ∧ qL G40 F (F a 8) = (gaL (dput G4 xq 9 1) (G4.2.2.1 (F (F a 2) 1)) (vw (G.2.1 (F (F a 4) 0))) (vw (G.2.1 (F (F a 3) 0))) 1 (((G.1 (F a 2) 2).toInt)).toNat) ∧ x40.toInt = cnQ (qL G40 F (F a 8)) ((G.1 xq 1).toInt)))
    (sb : 0 ≤ ((G.1 (F a 2) 2).toInt) ∧ ((G.1 (F a 2) 2).toInt) ≤ 12)
    (sw : 0 ≤ ((G.1 (F a 8) 6).toInt) ∧ ((G.1 (F a 8) 6).toInt) ≤ 1080)
    (t4 : ((G4.1 (F a 14) 1).toInt) = 0)
    (ht12 : 0 ≤ p0.toInt ∧ p0.toInt < 12)
    (f60 : ((G.1 xq 9).toInt) = 0 ∨ ((G.1 xq 9).toInt) = 1)
    (c28 : ((G.1 xq 9).toInt) ≠ p1.toInt)
    (c35 : ¬ (p1.toInt = 0))
    (t40 : ((G40.1 xq 9).toInt) = 1 ∧ 0 ≤ ((G40.1 (F a 8) 6).toInt) ∧ ((G40.1 (F a 8) 6).toInt) ≤ 1080)
    (c_G4_F_F_a_8_0 : G4.2.1 (F (F a 8) 0) = G.2.1 (F (F a 8) 0))
    (c_G4_F_F_a_8_1 : G4.2.1 (F (F a 8) 1) = G.2.1 (F (F a 8) 1))
    (c_G4_F_F_a_8_2 : G4.2.1 (F (F a 8) 2) = G.2.1 (F (F a 8) 2))
    (c_G4_F_F_a_8_3 : G4.2.1 (F (F a 8) 3) = G.2.1 (F (F a 8) 3))
    (c_G4_F_F_a_8_4 : G4.2.1 (F (F a 8) 4) = G.2.1 (F (F a 8) 4))
    (c_G4_F_F_a_8_5 : G4.2.1 (F (F a 8) 5) = G.2.1 (F (F a 8) 5))
    (r_G4_F_F_a_2_0 : G4.2.2.1 (F (F a 2) 0) = G.2.2.1 (F (F a 2) 0))
    (r_G4_F_F_a_2_1 : G4.2.2.1 (F (F a 2) 1) = G.2.2.1 (F (F a 2) 1))
    (d_G4_F_a_8_6 : G4.1 (F a 8) 6 = G.1 (F a 8) 6) :
    (((p0.toInt < 0 ∨ 12 ≤ p0.toInt) ∨ G.2.2.1 (F (F a 2) 0) (p0.toInt).toNat = none) ∧ x40.toInt = -2 ∧ qL G40 F (F a 8) = qL G F (F a 8)) ∨ (((0 ≤ p0.toInt ∧ p0.toInt < 12) ∧ G.2.2.1 (F (F a 2) 0) (p0.toInt).toNat = some xq) ∧ ((G.1 xq 9).toInt) = p1.toInt ∧ x40.toInt = -4 ∧ (((G40.1 xq 9).toInt) = ((G.1 xq 9).toInt) ∧ qL G40 F (F a 8) = qL G F (F a 8))) ∨ (((0 ≤ p0.toInt ∧ p0.toInt < 12) ∧ G.2.2.1 (F (F a 2) 0) (p0.toInt).toNat = some xq) ∧ ((G.1 xq 9).toInt) ≠ p1.toInt ∧ p1.toInt ≠ 0 ∧ ((G40.1 xq 9).toInt) = 1 ∧ ((((G.1 a 18).toInt) = 0 ∧ qL G40 F (F a 8) = qL G F (F a 8) ∧ x40.toInt = 0) ∨ (((G.1 a 18).toInt) ≠ 0 ∧ qL G40 F (F a 8) = (gaL (dput G xq 9 1) (G.2.2.1 (F (F a 2) 1)) (vw (G.2.1 (F (F a 4) 0))) (vw (G.2.1 (F (F a 3) 0))) 1 (((G.1 (F a 2) 2).toInt)).toNat) ∧ x40.toInt = cnQ (qL G40 F (F a 8)) ((G.1 xq 1).toInt)))) ∨ (((0 ≤ p0.toInt ∧ p0.toInt < 12) ∧ G.2.2.1 (F (F a 2) 0) (p0.toInt).toNat = some xq) ∧ ((G.1 xq 9).toInt) ≠ p1.toInt ∧ p1.toInt = 0 ∧ (((∃ x, x ∈ qL G F (F a 8) ∧ x.1 = ((G.1 xq 1).toInt) ∧ x.2.2.2.2.2 ≠ 0) ∧ x40.toInt = -5 ∧ (((G40.1 xq 9).toInt) = ((G.1 xq 9).toInt) ∧ qL G40 F (F a 8) = qL G F (F a 8))) ∨ ((∀ x, x ∈ qL G F (F a 8) → x.1 = ((G.1 xq 1).toInt) → x.2.2.2.2.2 = 0) ∧ ((G40.1 xq 9).toInt) = 0 ∧ ((((G.1 a 18).toInt) = 0 ∧ qL G40 F (F a 8) = qL G F (F a 8) ∧ x40.toInt = 0) ∨ (((G.1 a 18).toInt) ≠ 0 ∧ qL G40 F (F a 8) = (gaL (dput G xq 9 0) (G.2.2.1 (F (F a 2) 1)) (vw (G.2.1 (F (F a 4) 0))) (vw (G.2.1 (F (F a 3) 0))) 1 (((G.1 (F a 2) 2).toInt)).toNat) ∧ x40.toInt = cnQ (qL G F (F a 8)) ((G.1 xq 1).toInt)))))) := by
  have hq : G.2.2.1 (F (F a 2) 0) (p0.toInt).toNat = some xq := by rw [← r_G4_F_F_a_2_0]; exact hs12
  have e4 : qL G4 F (F a 8) = qL G F (F a 8) := qL_cg d_G4_F_a_8_6 c_G4_F_F_a_8_0 c_G4_F_F_a_8_1 c_G4_F_F_a_8_2 c_G4_F_F_a_8_3 c_G4_F_F_a_8_4 c_G4_F_F_a_8_5
  have h4 : ∀ q : Nat, K q = 9 → G4.1 q = G.1 q := fun q hk => hF4.rule (List.forall_mem_cons.mpr ⟨(show K (F a 14) ≠ 9 by omega), fun _ h => by cases h⟩) hk
  have g4 : ∀ v : Int32, gaL (dput G4 xq 9 v) (G4.2.2.1 (F (F a 2) 1)) (vw (G.2.1 (F (F a 4) 0))) (vw (G.2.1 (F (F a 3) 0))) 1 ((G.1 (F a 2) 2).toInt).toNat = gaL (dput G xq 9 v) (G.2.2.1 (F (F a 2) 1)) (vw (G.2.1 (F (F a 4) 0))) (vw (G.2.1 (F (F a 3) 0))) 1 ((G.1 (F a 2) 2).toInt).toNat := fun v => by
    rw [r_G4_F_F_a_2_1]
    refine gaL_cg (fun i q hi hq => ?_)
    have hk := (bko i q (by omega) hq).1
    funext j
    show up2 G4.1 xq 9 v q j = up2 G.1 xq 9 v q j
    unfold up2
    rw [h4 q hk]
  refine Or.inr (Or.inr (Or.inl ⟨⟨by omega, hq⟩, by omega, by omega, by omega, ?_⟩))
  rcases oq40 with ⟨a1, a2, a3⟩ | ⟨a1, a2, a3⟩
  · exact Or.inl ⟨by omega, a2.trans e4, a3⟩
  · exact Or.inr ⟨by omega, a2.trans (g4 1), a3⟩
theorem v_X10_later_33_11 {K : Nat → Nat} {F : Nat → Nat → Nat} (a : Nat) (xq : Nat) (G : XG) (G4 : XG) (p0 : Int32) (p1 : Int32)
    (ha : K a = 12)
    (hxs : 0 ≤ p0.toInt → p0.toInt < 12 → ∀ q : Nat, G.2.2.1 (F (F a 2) 0) (p0.toInt).toNat = some q → q = xq)
    (hs12 : G4.2.2.1 (F (F a 2) 0) (p0.toInt).toNat = some xq)
    (sb : 0 ≤ ((G.1 (F a 2) 2).toInt) ∧ ((G.1 (F a 2) 2).toInt) ≤ 12)
    (sw : 0 ≤ ((G.1 (F a 8) 6).toInt) ∧ ((G.1 (F a 8) 6).toInt) ≤ 1080)
    (t4 : ((G4.1 (F a 14) 1).toInt) = 0)
    (ht12 : 0 ≤ p0.toInt ∧ p0.toInt < 12)
    (f58 : ((G.1 xq 9).toInt) = 0 ∨ ((G.1 xq 9).toInt) = 1)
    (c28 : ¬ (((G.1 xq 9).toInt) ≠ p1.toInt))
    (c_G4_F_F_a_8_0 : G4.2.1 (F (F a 8) 0) = G.2.1 (F (F a 8) 0))
    (c_G4_F_F_a_8_1 : G4.2.1 (F (F a 8) 1) = G.2.1 (F (F a 8) 1))
    (c_G4_F_F_a_8_2 : G4.2.1 (F (F a 8) 2) = G.2.1 (F (F a 8) 2))
    (c_G4_F_F_a_8_3 : G4.2.1 (F (F a 8) 3) = G.2.1 (F (F a 8) 3))
    (c_G4_F_F_a_8_4 : G4.2.1 (F (F a 8) 4) = G.2.1 (F (F a 8) 4))
    (c_G4_F_F_a_8_5 : G4.2.1 (F (F a 8) 5) = G.2.1 (F (F a 8) 5))
    (r_G4_F_F_a_2_0 : G4.2.2.1 (F (F a 2) 0) = G.2.2.1 (F (F a 2) 0))
    (d_G4_F_a_8_6 : G4.1 (F a 8) 6 = G.1 (F a 8) 6)
    (d_G4_xq_9 : G4.1 xq 9 = G.1 xq 9) :
    (((p0.toInt < 0 ∨ 12 ≤ p0.toInt) ∨ G.2.2.1 (F (F a 2) 0) (p0.toInt).toNat = none) ∧ (-4 : Int) = -2 ∧ qL G4 F (F a 8) = qL G F (F a 8)) ∨ (((0 ≤ p0.toInt ∧ p0.toInt < 12) ∧ G.2.2.1 (F (F a 2) 0) (p0.toInt).toNat = some xq) ∧ ((G.1 xq 9).toInt) = p1.toInt ∧ (-4 : Int) = -4 ∧ (((G4.1 xq 9).toInt) = ((G.1 xq 9).toInt) ∧ qL G4 F (F a 8) = qL G F (F a 8))) ∨ (((0 ≤ p0.toInt ∧ p0.toInt < 12) ∧ G.2.2.1 (F (F a 2) 0) (p0.toInt).toNat = some xq) ∧ ((G.1 xq 9).toInt) ≠ p1.toInt ∧ p1.toInt ≠ 0 ∧ ((G4.1 xq 9).toInt) = 1 ∧ ((((G.1 a 18).toInt) = 0 ∧ qL G4 F (F a 8) = qL G F (F a 8) ∧ (-4 : Int) = 0) ∨ (((G.1 a 18).toInt) ≠ 0 ∧ qL G4 F (F a 8) = (gaL (dput G xq 9 1) (G.2.2.1 (F (F a 2) 1)) (vw (G.2.1 (F (F a 4) 0))) (vw (G.2.1 (F (F a 3) 0))) 1 (((G.1 (F a 2) 2).toInt)).toNat) ∧ (-4 : Int) = cnQ (qL G4 F (F a 8)) ((G.1 xq 1).toInt)))) ∨ (((0 ≤ p0.toInt ∧ p0.toInt < 12) ∧ G.2.2.1 (F (F a 2) 0) (p0.toInt).toNat = some xq) ∧ ((G.1 xq 9).toInt) ≠ p1.toInt ∧ p1.toInt = 0 ∧ (((∃ x, x ∈ qL G F (F a 8) ∧ x.1 = ((G.1 xq 1).toInt) ∧ x.2.2.2.2.2 ≠ 0) ∧ (-4 : Int) = -5 ∧ (((G4.1 xq 9).toInt) = ((G.1 xq 9).toInt) ∧ qL G4 F (F a 8) = qL G F (F a 8))) ∨ ((∀ x, x ∈ qL G F (F a 8) → x.1 = ((G.1 xq 1).toInt) → x.2.2.2.2.2 = 0) ∧ ((G4.1 xq 9).toInt) = 0 ∧ ((((G.1 a 18).toInt) = 0 ∧ qL G4 F (F a 8) = qL G F (F a 8) ∧ (-4 : Int) = 0) ∨ (((G.1 a 18).toInt) ≠ 0 ∧ qL G4 F (F a 8) = (gaL (dput G xq 9 0) (G.2.2.1 (F (F a 2) 1)) (vw (G.2.1 (F (F a 4) 0))) (vw (G.2.1 (F (F a 3) 0))) 1 (((G.1 (F a 2) 2).toInt)).toNat) ∧ (-4 : Int) = cnQ (qL G F (F a 8)) ((G.1 xq 1).toInt)))))) := by
  have hq : G.2.2.1 (F (F a 2) 0) (p0.toInt).toNat = some xq := by rw [← r_G4_F_F_a_2_0]; exact hs12
  exact Or.inr (Or.inl ⟨⟨by omega, hq⟩, by omega, rfl, by rw [d_G4_xq_9], qL_cg d_G4_F_a_8_6 c_G4_F_F_a_8_0 c_G4_F_F_a_8_1 c_G4_F_F_a_8_2 c_G4_F_F_a_8_3 c_G4_F_F_a_8_4 c_G4_F_F_a_8_5⟩)
theorem z_X10_mark_1 (a0 : Int) (a1 : Int) (h0 : 0 ≤ a1 ∧ a1 ≤ 8) (h1 : a0 = (a1 + (1 : Int)) ∨ (a1 + (1 : Int)) < -2147483648 ∨ 2147483648 ≤ (a1 + (1 : Int))) : a0 = (a1 + (1 : Int)) := by omega
theorem z_X10_mark_2 (a0 : Int) (a1 : Int) (h0 : a1 ≠ 0) (h1 : a0 < (8 : Int)) : (a1 = 0 ∧ a0 = -3 ∧ (a0 + (1 : Int)) = a0) ∨ (a1 ≠ 0 ∧ 8 ≤ a0 ∧ a0 = -4 ∧ (a0 + (1 : Int)) = a0) ∨ (a1 ≠ 0 ∧ a0 < 8 ∧ a0 = a0 ∧ (a0 + (1 : Int)) = a0 + 1) := by omega
theorem z_X10_mark_4 (a0 : Int) (a1 : Int) (h0 : a1 ≠ 0) (h1 : ¬ (a0 < (8 : Int))) : (a1 = 0 ∧ (-4 : Int) = -3 ∧ a0 = a0) ∨ (a1 ≠ 0 ∧ 8 ≤ a0 ∧ (-4 : Int) = -4 ∧ a0 = a0) ∨ (a1 ≠ 0 ∧ a0 < 8 ∧ (-4 : Int) = a0 ∧ a0 = a0 + 1) := by omega
theorem z_X10_mark_5 (a0 : Int) (a1 : Int) (h0 : ¬ (a1 ≠ 0)) : (a1 = 0 ∧ (-3 : Int) = -3 ∧ a0 = a0) ∨ (a1 ≠ 0 ∧ 8 ≤ a0 ∧ (-3 : Int) = -4 ∧ a0 = a0) ∨ (a1 ≠ 0 ∧ a0 < 8 ∧ (-3 : Int) = a0 ∧ a0 = a0 + 1) := by omega
abbrev rm_X10_mark : Room := { frames := 2, cells := 0, slots := 0, locals := 81 }
set_option maxHeartbeats 4000000 in
set_option maxRecDepth 100000 in
theorem c_X10_mark (l : Launch) (E : XE) (K : Nat → Nat) (F : Nat → Nat → Nat) (G : XG) (a : Nat) (xq : Nat) (xj : Nat) (ha : K a = 12) (m0 : 0 ≤ ((G.1 a 17).toInt) ∧ ((G.1 a 17).toInt) ≤ 8) (hxk : K xq = 8) (hxj : F xq 99 = 4 + xj) (hxs : ((G.1 a 17).toInt) < 8 → G.2.2.1 (F a 7) (((G.1 a 17).toInt)).toNat = some xq) (ron : RO (vw (G.2.1 (F (F a 3) 0))) (aI (G.2.1 (F (F a 3) 1)))) (rox : RO (vw (G.2.1 (F xq 0))) (aI (G.2.1 (F xq 1)))) : Met l yX10_mark (xw yX10_mark cX10_mark 3 (some .int)) rm_X10_mark (va_Pc [.ref a] (XP E K F G)) (XQ E (fun v (u : XG) => ∃ r : Int32, v = .int r ∧ XFr [(a, 17)] [F xq 0, F xq 1] [] G u ∧ ((((G.1 a 18).toInt) = 0 ∧ r.toInt = -3 ∧ ((u.1 a 17).toInt) = ((G.1 a 17).toInt)) ∨ (((G.1 a 18).toInt) ≠ 0 ∧ 8 ≤ ((G.1 a 17).toInt) ∧ r.toInt = -4 ∧ ((u.1 a 17).toInt) = ((G.1 a 17).toInt)) ∨ (((G.1 a 18).toInt) ≠ 0 ∧ ((G.1 a 17).toInt) < 8 ∧ r.toInt = ((G.1 a 17).toInt) ∧ ((u.1 a 17).toInt) = ((G.1 a 17).toInt) + 1)) ∧ (((((G.1 a 18).toInt) = 0 ∨ 8 ≤ ((G.1 a 17).toInt)) ∧ u.2.1 (F xq 0) = (G.2.1 (F xq 0)) ∧ u.2.1 (F xq 1) = (G.2.1 (F xq 1))) ∨ ((((G.1 a 18).toInt) ≠ 0 ∧ ((G.1 a 17).toInt) < 8) ∧ (vw (u.2.1 (F xq 0))) = (vw (G.2.1 (F (F a 3) 0))))) ∧ (RO (vw (u.2.1 (F xq 0))) (aI (u.2.1 (F xq 1))))) (fun u H => TW E K F u H)) 0 0 (xA E) := by
  refine x_enter (by decide) (Nat.le_of_ble_eq_true rfl) ?_
  intro p e s m args below meth c Q S hr hlk hnm hQ hP ls hl
  obtain ⟨hz, hK, hT⟩ := hP
  obtain ⟨hx, hb, -, -, -⟩ := id S
  obtain ⟨H, hT, hS, hgo⟩ : ∃ H : Heap, TW E K F G H ∧ va_S (xA E) s.heap H [] ∧ H = s.heap := ⟨_, hT, va_S.rf, rfl⟩
  rw [← hgo]
  have hl : lv_has ls 3 [(0, .ref a)] := hl
  obtain ⟨hk9999, hj9999⟩ := fkX6_0 hT hxk
  have hj9999a : F (F xq 0) 99 = 4 + xj := by rw [hj9999, hxj]
  obtain ⟨hk9999a, hj9999b⟩ := fkX6_1 hT hxk
  have hj9999c : F (F xq 1) 99 = 4 + xj := by rw [hj9999b, hxj]
  obtain ⟨hk9999b, hj9999d⟩ := fkX10_7 hT ha
  obtain ⟨hk9999c, hj9999e⟩ := fkX10_3 hT ha
  obtain ⟨hk9999d, hj9999f⟩ := fkX6_0 hT hk9999c
  have hj9999g : F (F (F a 3) 0) 99 = 0 := by rw [hj9999f, hj9999e]
  obtain ⟨hk9999e, hj9999h⟩ := fkX6_1 hT hk9999c
  have hj9999i : F (F (F a 3) 1) 99 = 0 := by rw [hj9999h, hj9999e]
  refine lv_aload_n hx hb dX10_mark_0 rfl (lv_at hl 0 rfl) ?_
  refine gX10_18 S hK hT ha kf_X10_123 dX10_mark_1 (v := (G.1 a 18)) rfl (fun hz1 => ?_)
  refine xi_zne (tgt := 10) hx hb (rfl : Int32.toInt (G.1 a 18) = ((G.1 a 18).toInt)) dX10_mark_4 (by decide) (fun c4 => ?_) (fun c4 => ?_)
  · refine lv_aload_n hx hb dX10_mark_10 rfl (lv_at hl 0 rfl) ?_
    refine gX10_17 S hK hT ha kf_X10_233 dX10_mark_11 (v := (G.1 a 17)) rfl (?_)
    refine lv_bipush (v := 8) hx hb dX10_mark_14 (by decide) ?_
    refine xi_clt (tgt := 22) hx hb (rfl : Int32.toInt (G.1 a 17) = ((G.1 a 17).toInt)) ((by decide) : Int32.toInt 8 = (8 : Int)) dX10_mark_16 (by decide) (fun c16 => ?_) (fun c16 => ?_)
    · refine lv_aload_n hx hb dX10_mark_22 rfl (lv_at hl 0 rfl) ?_
      refine gX10_17 S hK hT ha kf_X10_233 dX10_mark_23 (v := (G.1 a 17)) rfl (?_)
      refine lv_istore_n (lv' := [(1, .int (G.1 a 17)), (0, .ref a)]) hx hb dX10_mark_26 rfl hl (by decide) rfl (fun ls hl => ?_)
      refine lv_aload_n hx hb dX10_mark_27 rfl (lv_at hl 1 rfl) ?_
      refine lv_dup hx hb dX10_mark_28 rfl ?_
      refine gX10_17 S hK hT ha kf_X10_233 dX10_mark_29 (v := (G.1 a 17)) rfl (?_)
      refine lv_iconst (v := 1) hx hb dX10_mark_32 (by decide) ?_
      refine xi_iadd hx hb (rfl : Int32.toInt (G.1 a 17) = ((G.1 a 17).toInt)) ((by decide) : Int32.toInt 1 = (1 : Int)) dX10_mark_33 (fun x33 t33 => ?_)
      have e33 : x33.toInt = (((G.1 a 17).toInt) + (1 : Int)) := (z_X10_mark_1 x33.toInt ((G.1 a 17).toInt) m0 t33)
      refine pX10_17 (v := x33) S hK hT hS ha kf_X10_233 dX10_mark_34 (fun H locs hT hS => ?_)
      obtain ⟨G34, hG34⟩ : ∃ GG : XG, GG = dput G a 17 x33 := ⟨_, rfl⟩
      rw [← hG34] at hT
      refine lv_aload_n hx hb dX10_mark_37 rfl (lv_at hl 1 rfl) ?_
      refine lv_iload_n hx hb dX10_mark_38 rfl (lv_at hl 0 rfl) ?_
      refine x_clp (x_runV (b := a) (As := [.int (G.1 a 17)]) (rest := []) S (c_X10_rowsAtMark l E K F G34 H a (G.1 a 17) ha) mv_X10_rowsAtMark km_X10_236 rfl rfl ⟨Nat.le_of_ble_eq_true rfl, Nat.le_of_ble_eq_true rfl⟩ (rc_12 hK hT ha) hK (fun _ => XPh.blind) (fun U hU hW => XPh.at hK hz hS hT hU hW) rfl hl.1 (Nat.le_of_ble_eq_true rfl) dX10_mark_39 ⟨Nat.le_of_ble_eq_true rfl, Nat.le_of_ble_eq_true rfl⟩) hS ?_
      rintro _ _ locs (⟨rfl, hn39⟩ | ⟨q39, rfl, hk39, ht39, hs39⟩) hS
      · refine lv_astore_nN (lv' := [(2, .null), (1, .int (G.1 a 17)), (0, .ref a)]) hx hb dX10_mark_42 rfl hl (by decide) rfl (fun ls hl => ?_)
        refine lv_aload_nN hx hb dX10_mark_43 rfl (lv_at hl 0 rfl) ?_
        refine lv_ifnullN (tgt := 55) hx hb dX10_mark_44 (by decide) ?_
        refine lv_iload_n hx hb dX10_mark_55 rfl (lv_at hl 1 rfl) ?_
        exact x_ri hx hb hr hlk hQ (Nat.le_of_ble_eq_true rfl) (Nat.le_of_ble_eq_true rfl) hS dX10_mark_56 G34 ⟨_, rfl, (by rw [hG34]; exact XFr.dput XFr.rf (List.mem_of_getElem? (i := 0) rfl)), (by rw [(show (G34.1 a 17).toInt = (((G.1 a 17).toInt) + (1 : Int)) from (congrArg Int32.toInt (ld_at hG34)).trans (e33 : Int32.toInt x33 = (((G.1 a 17).toInt) + (1 : Int))))] <;> exact (z_X10_mark_2 ((G.1 a 17).toInt) ((G.1 a 18).toInt) c4 c16)), (v_X10_mark_56_1 (K := K) (F := F) a xq xj G34 G x33 ha hxk hxj hxs e33 hn39 m0 (xzi hz1) c4 c16 (ld_at hG34)), (v_X10_mark_56_2 (K := K) (F := F) a xq xj G34 G x33 ha hxk hxj hxs e33 hn39 m0 (xzi hz1) c4 c16 (ld_at hG34))⟩ hT
      · have ht39 : 0 ≤ ((G.1 a 17).toInt) ∧ ((G.1 a 17).toInt) < (((G.1 a 17).toInt) + (1 : Int)) ∧ ((G.1 a 17).toInt) < 8 := by rw [(show (G34.1 a 17).toInt = (((G.1 a 17).toInt) + (1 : Int)) from (congrArg Int32.toInt (ld_at hG34)).trans (e33 : Int32.toInt x33 = (((G.1 a 17).toInt) + (1 : Int))))] at ht39; exact ht39
        obtain rfl : xq = q39 := (v_X10_mark_42_3 (K := K) (F := F) a xq xj q39 G G34 ha hxk hxj ((hs39).1) hxs hs39 m0 (xzi hz1) c4 c16 ht39 (ld_r hG34))
        refine lv_astore_n (lv' := [(2, .ref xq), (1, .int (G.1 a 17)), (0, .ref a)]) hx hb dX10_mark_42 rfl hl (by decide) rfl (fun ls hl => ?_)
        refine lv_aload_n hx hb dX10_mark_43 rfl (lv_at hl 0 rfl) ?_
        refine lv_ifnull hx hb dX10_mark_44 ?_
        refine lv_aload_n hx hb dX10_mark_47 rfl (lv_at hl 0 rfl) ?_
        refine lv_aload_n hx hb dX10_mark_48 rfl (lv_at hl 2 rfl) ?_
        refine gX10_3 S hK hT ha kf_X10_37 dX10_mark_49 (fun _ _ => ?_)
        refine x_cv0 (x_runV (b := xq) (As := [.ref (F a 3)]) (rest := []) S (c_X6_copy l E K F G34 xq (F a 3) hk39 hk9999c (v_X10_mark_52_4 (F := F) a xq G34 G ron rox (ld_c hG34) (ld_c hG34))) mv_X6_copy km_X10_195 rfl rfl ⟨Nat.le_of_ble_eq_true rfl, Nat.le_of_ble_eq_true rfl⟩ (rc_8 hK hT hk39) hK (fun _ => XP.blind) (fun U hU hW => XP.at hK hz hS hT hU hW) rfl hl.1 (Nat.le_of_ble_eq_true rfl) dX10_mark_52 ⟨Nat.le_of_ble_eq_true rfl, Nat.le_of_ble_eq_true rfl⟩) hS ?_
        rintro G52 H locs ⟨hF52, oq52, oq52a⟩ hT hS
        have oq52 : (vw (G52.2.1 (F xq 0))) = (vw (G.2.1 (F (F a 3) 0))) := by simp only [(show G34.2.1 (F (F a 3) 0) = G.2.1 (F (F a 3) 0) from (ld_c hG34))] at oq52; exact oq52
        refine lv_iload_n hx hb dX10_mark_55 rfl (lv_at hl 1 rfl) ?_
        exact x_ri hx hb hr hlk hQ (Nat.le_of_ble_eq_true rfl) (Nat.le_of_ble_eq_true rfl) hS dX10_mark_56 G52 ⟨_, rfl, (XFr.call (by rw [hG34]; exact XFr.dput XFr.rf (List.mem_of_getElem? (i := 0) rfl)) hF52 xm0 (xm1 0 rfl (xm1 1 rfl xm0)) xm0), (by rw [(show (G52.1 a 17).toInt = (((G.1 a 17).toInt) + (1 : Int)) from (congrArg Int32.toInt ((hF52.1 _ _ xn0).trans (ld_at hG34))).trans (e33 : Int32.toInt x33 = (((G.1 a 17).toInt) + (1 : Int))))] <;> exact (z_X10_mark_2 ((G.1 a 17).toInt) ((G.1 a 18).toInt) c4 c16)), (v_X10_mark_56_5 (K := K) (F := F) a xq xj G34 G x33 G52 ha hxk hxj hxs e33 hs39 oq52 m0 (xzi hz1) c4 c16 ht39 (ld_at hG34)), (v_X10_mark_56_6 (K := K) (F := F) a xq xj G34 G x33 G52 ha hxk hxj hxs e33 hs39 oq52a m0 (xzi hz1) c4 c16 ht39 (ld_at hG34))⟩ hT
    · refine lv_bipush (v := (-4)) hx hb dX10_mark_19 (by decide) ?_
      exact x_ri hx hb hr hlk hQ (Nat.le_of_ble_eq_true rfl) (Nat.le_of_ble_eq_true rfl) hS dX10_mark_21 G ⟨_, rfl, XFr.rf, (by rw [((by decide) : Int32.toInt (-4) = (-4 : Int))] <;> exact (z_X10_mark_4 ((G.1 a 17).toInt) ((G.1 a 18).toInt) c4 c16)), (v_X10_mark_21_7 (K := K) (F := F) a xq xj G ha hxk hxj hxs m0 (xzi hz1) c4 c16), (v_X10_mark_21_8 (F := F) xq G rox)⟩ hT
  · refine lv_bipush (v := (-3)) hx hb dX10_mark_7 (by decide) ?_
    exact x_ri hx hb hr hlk hQ (Nat.le_of_ble_eq_true rfl) (Nat.le_of_ble_eq_true rfl) hS dX10_mark_9 G ⟨_, rfl, XFr.rf, (by rw [((by decide) : Int32.toInt (-3) = (-3 : Int))] <;> exact (z_X10_mark_5 ((G.1 a 17).toInt) ((G.1 a 18).toInt) c4)), (v_X10_mark_9_9 (K := K) (F := F) a xq xj G ha hxk hxj hxs m0 (xzi hz1) c4), (v_X10_mark_9_10 (F := F) xq G rox)⟩ hT

theorem z_X10_later_7 (a0 : Int) (a1 : Int) (h0 : a1 = 1 ∧ 0 ≤ a0 ∧ a0 ≤ 1080) : 0 ≤ a0 ∧ a0 ≤ 1080 := by omega
abbrev rm_X10_later : Room := { frames := 9, cells := 8, slots := 800, locals := 216 }
set_option maxHeartbeats 4000000 in
set_option maxRecDepth 100000 in
theorem c_X10_later (l : Launch) (E : XE) (K : Nat → Nat) (F : Nat → Nat → Nat) (G : XG) (a : Nat) (p0 : Int32) (p1 : Int32) (xq : Nat) (ha : K a = 12) (b1 : p1 = 0 ∨ p1 = 1) (sb : 0 ≤ ((G.1 (F a 2) 2).toInt) ∧ ((G.1 (F a 2) 2).toInt) ≤ 12) (sw : 0 ≤ ((G.1 (F a 8) 6).toInt) ∧ ((G.1 (F a 8) 6).toInt) ≤ 1080) (hxs : 0 ≤ p0.toInt → p0.toInt < 12 → ∀ q : Nat, G.2.2.1 (F (F a 2) 0) (p0.toInt).toNat = some q → q = xq) (ron : RO (vw (G.2.1 (F (F a 3) 0))) (aI (G.2.1 (F (F a 3) 1)))) (rob : RO (vw (G.2.1 (F (F a 4) 0))) (aI (G.2.1 (F (F a 4) 1)))) (bko : BKr K G (G.2.2.1 (F (F a 2) 1))) : Met l yX10_later (xw yX10_later cX10_later 4 (some .int)) rm_X10_later (va_Pc [.ref a, .int p0, .int p1] (XP E K F G)) (XQ E (fun v (u : XG) => ∃ r : Int32, v = .int r ∧ XFr [(F a 14, 1), (F a 14, 2), (F a 14, 3), (xq, 9), (F a 11, 3), (F a 8, 6)] [F a 16, F a 15, F (F a 11) 0, F (F a 11) 1, F (F a 11) 2, F (F a 8) 0, F (F a 8) 1, F (F a 8) 2, F (F a 8) 3, F (F a 8) 4, F (F a 8) 5] [] G u ∧ (0 ≤ ((u.1 (F a 8) 6).toInt) ∧ ((u.1 (F a 8) 6).toInt) ≤ 1080) ∧ ((((p0.toInt < 0 ∨ 12 ≤ p0.toInt) ∨ G.2.2.1 (F (F a 2) 0) (p0.toInt).toNat = none) ∧ r.toInt = -2 ∧ qL u F (F a 8) = qL G F (F a 8)) ∨ (((0 ≤ p0.toInt ∧ p0.toInt < 12) ∧ G.2.2.1 (F (F a 2) 0) (p0.toInt).toNat = some xq) ∧ ((G.1 xq 9).toInt) = p1.toInt ∧ r.toInt = -4 ∧ (((u.1 xq 9).toInt) = ((G.1 xq 9).toInt) ∧ qL u F (F a 8) = qL G F (F a 8))) ∨ (((0 ≤ p0.toInt ∧ p0.toInt < 12) ∧ G.2.2.1 (F (F a 2) 0) (p0.toInt).toNat = some xq) ∧ ((G.1 xq 9).toInt) ≠ p1.toInt ∧ p1.toInt ≠ 0 ∧ ((u.1 xq 9).toInt) = 1 ∧ ((((G.1 a 18).toInt) = 0 ∧ qL u F (F a 8) = qL G F (F a 8) ∧ r.toInt = 0) ∨ (((G.1 a 18).toInt) ≠ 0 ∧ qL u F (F a 8) = (gaL (dput G xq 9 1) (G.2.2.1 (F (F a 2) 1)) (vw (G.2.1 (F (F a 4) 0))) (vw (G.2.1 (F (F a 3) 0))) 1 (((G.1 (F a 2) 2).toInt)).toNat) ∧ r.toInt = cnQ (qL u F (F a 8)) ((G.1 xq 1).toInt)))) ∨ (((0 ≤ p0.toInt ∧ p0.toInt < 12) ∧ G.2.2.1 (F (F a 2) 0) (p0.toInt).toNat = some xq) ∧ ((G.1 xq 9).toInt) ≠ p1.toInt ∧ p1.toInt = 0 ∧ (((∃ x, x ∈ qL G F (F a 8) ∧ x.1 = ((G.1 xq 1).toInt) ∧ x.2.2.2.2.2 ≠ 0) ∧ r.toInt = -5 ∧ (((u.1 xq 9).toInt) = ((G.1 xq 9).toInt) ∧ qL u F (F a 8) = qL G F (F a 8))) ∨ ((∀ x, x ∈ qL G F (F a 8) → x.1 = ((G.1 xq 1).toInt) → x.2.2.2.2.2 = 0) ∧ ((u.1 xq 9).toInt) = 0 ∧ ((((G.1 a 18).toInt) = 0 ∧ qL u F (F a 8) = qL G F (F a 8) ∧ r.toInt = 0) ∨ (((G.1 a 18).toInt) ≠ 0 ∧ qL u F (F a 8) = (gaL (dput G xq 9 0) (G.2.2.1 (F (F a 2) 1)) (vw (G.2.1 (F (F a 4) 0))) (vw (G.2.1 (F (F a 3) 0))) 1 (((G.1 (F a 2) 2).toInt)).toNat) ∧ r.toInt = cnQ (qL G F (F a 8)) ((G.1 xq 1).toInt)))))))) (fun u H => TW E K F u H)) 8 800 (xA E) := by
  refine x_enter (by decide) (Nat.le_of_ble_eq_true rfl) ?_
  intro p e s m args below meth c Q S hr hlk hnm hQ hP ls hl
  obtain ⟨hz, hK, hT⟩ := hP
  obtain ⟨hx, hb, -, -, -⟩ := id S
  obtain ⟨H, hT, hS, hgo⟩ : ∃ H : Heap, TW E K F G H ∧ va_S (xA E) s.heap H [] ∧ H = s.heap := ⟨_, hT, va_S.rf, rfl⟩
  rw [← hgo]
  have hl : lv_has ls 4 [(0, .ref a), (1, .int p0), (2, .int p1)] := hl
  obtain ⟨hk9999, hj9999⟩ := fkX10_14 hT ha
  obtain ⟨hk9999a, hj9999a⟩ := fkX10_11 hT ha
  obtain ⟨hk9999b, hj9999b⟩ := fkX10_8 hT ha
  obtain ⟨hk9999c, hj9999c⟩ := fkX10_16 hT ha
  obtain ⟨hk9999d, hj9999d⟩ := fkX10_15 hT ha
  obtain ⟨hk9999e, hj9999e⟩ := fkX1_0 hT hk9999a
  obtain ⟨hk9999f, hj9999f⟩ := fkX1_1 hT hk9999a
  obtain ⟨hk9999g, hj9999g⟩ := fkX1_2 hT hk9999a
  obtain ⟨hk9999h, hj9999h⟩ := fkX4_0 hT hk9999b
  have hj9999i : F (F (F a 8) 0) 99 = 10 * 0 + 0 := by rw [hj9999h, hj9999b]
  obtain ⟨hk9999i, hj9999j⟩ := fkX4_1 hT hk9999b
  have hj9999k : F (F (F a 8) 1) 99 = 10 * 0 + 1 := by rw [hj9999j, hj9999b]
  obtain ⟨hk9999j, hj9999l⟩ := fkX4_2 hT hk9999b
  have hj9999m : F (F (F a 8) 2) 99 = 10 * 0 + 2 := by rw [hj9999l, hj9999b]
  obtain ⟨hk9999k, hj9999n⟩ := fkX4_3 hT hk9999b
  have hj9999o : F (F (F a 8) 3) 99 = 10 * 0 + 3 := by rw [hj9999n, hj9999b]
  obtain ⟨hk9999l, hj9999p⟩ := fkX4_4 hT hk9999b
  have hj9999q : F (F (F a 8) 4) 99 = 10 * 0 + 4 := by rw [hj9999p, hj9999b]
  obtain ⟨hk9999m, hj9999r⟩ := fkX4_5 hT hk9999b
  have hj9999s : F (F (F a 8) 5) 99 = 10 * 0 + 5 := by rw [hj9999r, hj9999b]
  obtain ⟨hk9999n, hj9999t⟩ := fkX10_2 hT ha
  obtain ⟨hk9999o, hj9999u⟩ := fkX0_0 hT hk9999n
  obtain ⟨hk9999p, hj9999v⟩ := fkX0_1 hT hk9999n
  obtain ⟨hk9999q, hj9999w⟩ := fkX10_4 hT ha
  obtain ⟨hk9999r, hj9999y⟩ := fkX6_0 hT hk9999q
  have hj9999z25 : F (F (F a 4) 0) 99 = 1 := by rw [hj9999y, hj9999w]
  obtain ⟨hk9999s, hj9999z26⟩ := fkX6_1 hT hk9999q
  have hj9999z27 : F (F (F a 4) 1) 99 = 1 := by rw [hj9999z26, hj9999w]
  obtain ⟨hk9999t, hj9999z28⟩ := fkX10_3 hT ha
  obtain ⟨hk9999u, hj9999z29⟩ := fkX6_0 hT hk9999t
  have hj9999z30 : F (F (F a 3) 0) 99 = 0 := by rw [hj9999z29, hj9999z28]
  obtain ⟨hk9999v, hj9999z31⟩ := fkX6_1 hT hk9999t
  have hj9999z32 : F (F (F a 3) 1) 99 = 0 := by rw [hj9999z31, hj9999z28]
  refine lv_aload_n hx hb dX10_later_0 rfl (lv_at hl 0 rfl) ?_
  refine gX10_14 S hK hT ha kf_X10_91 dX10_later_1 (fun _ _ => ?_)
  refine x_cv (x_runV (b := (F a 14)) (As := []) (rest := []) S (c_X9_clear l E K F G (F a 14) hk9999) mv_X9_clear km_X10_113 rfl rfl ⟨Nat.le_of_ble_eq_true rfl, Nat.le_of_ble_eq_true rfl⟩ (rc_11 hK hT hk9999) hK (fun _ => XP.blind) (fun U hU hW => XP.at hK hz hS hT hU hW) rfl hl.1 (Nat.le_of_ble_eq_true rfl) dX10_later_4 ⟨Nat.le_of_ble_eq_true rfl, Nat.le_of_ble_eq_true rfl⟩) hS ?_
  rintro G4 H locs ⟨hF4, t4⟩ hT hS
  have t4 : ((G4.1 (F a 14) 1).toInt) = 0 := t4
  refine lv_aload_n hx hb dX10_later_7 rfl (lv_at hl 0 rfl) ?_
  refine gX10_2 S hK hT ha kf_X10_30 dX10_later_8 (fun _ _ => ?_)
  refine lv_iload_n hx hb dX10_later_11 rfl (lv_at hl 1 rfl) ?_
  refine x_clp (x_runV (b := (F a 2)) (As := [.int p0]) (rest := []) S (c_X0_get l E K F G4 H (F a 2) p0 hk9999n) mv_X0_get km_X10_159 rfl rfl ⟨Nat.le_of_ble_eq_true rfl, Nat.le_of_ble_eq_true rfl⟩ (rc_2 hK hT hk9999n) hK (fun _ => XPh.blind) (fun U hU hW => XPh.at hK hz hS hT hU hW) rfl hl.1 (Nat.le_of_ble_eq_true rfl) dX10_later_12 ⟨Nat.le_of_ble_eq_true rfl, Nat.le_of_ble_eq_true rfl⟩) hS ?_
  rintro _ _ locs (⟨rfl, hn12⟩ | ⟨q12, rfl, hk12, ht12, hs12⟩) hS
  · refine lv_astore_nN (lv' := [(3, .null), (0, .ref a), (1, .int p0), (2, .int p1)]) hx hb dX10_later_15 rfl hl (by decide) rfl (fun ls hl => ?_)
    refine lv_aload_nN hx hb dX10_later_16 rfl (lv_at hl 0 rfl) ?_
    refine lv_ifnonnullN hx hb dX10_later_17 ?_
    refine lv_bipush (v := (-2)) hx hb dX10_later_20 (by decide) ?_
    exact x_ri hx hb hr hlk hQ (Nat.le_of_ble_eq_true rfl) (Nat.le_of_ble_eq_true rfl) hS dX10_later_22 G4 ⟨_, rfl, (XFr.call XFr.rf hF4 (xm1 0 rfl xm0) xm0 xm0), (by rw [(show (G4.1 (F a 8) 6).toInt = ((G.1 (F a 8) 6).toInt) from (congrArg Int32.toInt (hF4.1 _ _ (xnj (by decide) xn0))).trans (rfl : Int32.toInt (G.1 (F a 8) 6) = ((G.1 (F a 8) 6).toInt)))] <;> exact (sw)), (by rw [((by decide) : Int32.toInt (-2) = (-2 : Int))] <;> exact (v_X10_later_22_1 (F := F) a G G4 p0 xq p1 hn12 (hF4.2.1 _ xn0) (hF4.2.1 _ xn0) (hF4.2.1 _ xn0) (hF4.2.1 _ xn0) (hF4.2.1 _ xn0) (hF4.2.1 _ xn0) (hF4.2.2 _ xn0) (hF4.1 _ _ (xnj (by decide) xn0))))⟩ hT
  · have ht12 : 0 ≤ p0.toInt ∧ p0.toInt < 12 := ht12
    obtain rfl : xq = q12 := (v_X10_later_15_2 (K := K) (F := F) a q12 G G4 p0 xq ha hxs hs12 sb sw t4 ht12 (hF4.2.2 _ xn0))
    refine lv_astore_n (lv' := [(3, .ref xq), (0, .ref a), (1, .int p0), (2, .int p1)]) hx hb dX10_later_15 rfl hl (by decide) rfl (fun ls hl => ?_)
    refine lv_aload_n hx hb dX10_later_16 rfl (lv_at hl 0 rfl) ?_
    refine lv_ifnonnull (tgt := 23) hx hb dX10_later_17 (by decide) ?_
    refine lv_aload_n hx hb dX10_later_23 rfl (lv_at hl 0 rfl) ?_
    refine gX7_9 S hK hT hk12 kf_X10_170 dX10_later_24 (v := (G.1 xq 9)) (hF4.1 _ _ (xnj (by decide) xn0)) (fun hz24 => ?_)
    refine lv_iload_n hx hb dX10_later_27 rfl (lv_at hl 3 rfl) ?_
    refine xi_cne (tgt := 34) hx hb (rfl : Int32.toInt (G.1 xq 9) = ((G.1 xq 9).toInt)) (rfl : Int32.toInt p1 = p1.toInt) dX10_later_28 (by decide) (fun c28 => ?_) (fun c28 => ?_)
    · refine lv_iload_n hx hb dX10_later_34 rfl (lv_at hl 3 rfl) ?_
      refine xi_zeq (tgt := 44) hx hb (rfl : Int32.toInt p1 = p1.toInt) dX10_later_35 (by decide) (fun c35 => ?_) (fun c35 => ?_)
      · refine lv_aload_n hx hb dX10_later_44 rfl (lv_at hl 1 rfl) ?_
        refine lv_aload_n hx hb dX10_later_45 rfl (lv_at hl 0 rfl) ?_
        refine x_cl (x_runV (b := a) (As := [.ref xq]) (rest := []) S (c_X10_becomePrompt l E K F G4 a xq ha hk12 (by rw [(show (G4.1 (F a 2) 2).toInt = ((G.1 (F a 2) 2).toInt) from (congrArg Int32.toInt (hF4.1 _ _ (xnj (by decide) xn0))).trans (rfl : Int32.toInt (G.1 (F a 2) 2) = ((G.1 (F a 2) 2).toInt)))] <;> exact (sb)) (by rw [(show (G4.1 (F a 8) 6).toInt = ((G.1 (F a 8) 6).toInt) from (congrArg Int32.toInt (hF4.1 _ _ (xnj (by decide) xn0))).trans (rfl : Int32.toInt (G.1 (F a 8) 6) = ((G.1 (F a 8) 6).toInt)))] <;> exact (sw)) (v_X10_later_46_3 (F := F) a G G4 ron rob (hF4.2.1 _ xn0) (hF4.2.1 _ xn0)) (v_X10_later_46_4 (F := F) a G G4 ron rob (hF4.2.1 _ xn0) (hF4.2.1 _ xn0)) (v_X10_later_46_5 (K := K) (F := F) a xq G G4 p0 p1 ha hk9999 hj9999 hk9999a hj9999a hk9999b hj9999b hk9999c hj9999c hk9999d hj9999d hk9999e hj9999e hk9999f hj9999f hk9999g hj9999g hk9999h hj9999i hk9999i hj9999k hk9999j hj9999m hk9999k hj9999o hk9999l hj9999q hk9999m hj9999s hk9999n hj9999t hk9999o hj9999u hk9999p hj9999v hk9999q hj9999w hk9999r hj9999z25 hk9999s hj9999z27 hk9999t hj9999z28 hk9999u hj9999z30 hk9999v hj9999z32 hk12 hF4 hxs bko hs12 sb sw t4 ht12 (xzi hz24) c28 c35 (hF4.2.2 _ xn0))) mv_X10_becomePrompt km_X10_176 rfl rfl ⟨Nat.le_of_ble_eq_true rfl, Nat.le_of_ble_eq_true rfl⟩ (rc_12 hK hT ha) hK (fun _ => XP.blind) (fun U hU hW => XP.at hK hz hS hT hU hW) rfl hl.1 (Nat.le_of_ble_eq_true rfl) dX10_later_46 ⟨Nat.le_of_ble_eq_true rfl, Nat.le_of_ble_eq_true rfl⟩) hS ?_
        rintro _ G46 H locs ⟨x46, rfl, hF46, t46, oq46⟩ hT hS
        have t46 : 0 ≤ ((G46.1 (F a 8) 6).toInt) ∧ ((G46.1 (F a 8) 6).toInt) ≤ 1080 := t46
        have oq46 : ((∃ x, x ∈ qL G4 F (F a 8) ∧ x.1 = ((G.1 xq 1).toInt) ∧ x.2.2.2.2.2 ≠ 0) ∧ x46.toInt = -5 ∧ ((G46.1 xq 9).toInt) = ((G.1 xq 9).toInt) ∧ qL G46 F (F a 8) = qL G4 F (F a 8)) ∨ ((∀ x, x ∈ qL G4 F (F a 8) → x.1 = ((G.1 xq 1).toInt) → x.2.2.2.2.2 = 0) ∧ ((G46.1 xq 9).toInt) = 0 ∧ ((((G.1 a 18).toInt) = 0 ∧ qL G46 F (F a 8) = qL G4 F (F a 8) ∧ x46.toInt = 0) ∨ (((G.1 a 18).toInt) ≠ 0 ∧ qL G46 F (F a 8) = (gaL (dput G4 xq 9 0) (G4.2.2.1 (F (F a 2) 1)) (vw (G.2.1 (F (F a 4) 0))) (vw (G.2.1 (F (F a 3) 0))) 1 (((G.1 (F a 2) 2).toInt)).toNat) ∧ x46.toInt = cnQ (qL G4 F (F a 8)) ((G.1 xq 1).toInt)))) := by simp only [(show G4.1 xq 1 = G.1 xq 1 from (hF4.1 _ _ (xna (xne_k hk12 hk9999 (by decide)) xn0))), (show G4.1 xq 9 = G.1 xq 9 from (hF4.1 _ _ (xnj (by decide) xn0))), (show G4.1 a 18 = G.1 a 18 from (hF4.1 _ _ (xnj (by decide) xn0))), (show G4.2.1 (F (F a 4) 0) = G.2.1 (F (F a 4) 0) from (hF4.2.1 _ xn0)), (show G4.2.1 (F (F a 3) 0) = G.2.1 (F (F a 3) 0) from (hF4.2.1 _ xn0)), (show G4.1 (F a 2) 2 = G.1 (F a 2) 2 from (hF4.1 _ _ (xnj (by decide) xn0)))] at oq46; exact oq46
        exact x_ri hx hb hr hlk hQ (Nat.le_of_ble_eq_true rfl) (Nat.le_of_ble_eq_true rfl) hS dX10_later_49 G46 ⟨_, rfl, (XFr.call (XFr.call XFr.rf hF4 (xm1 0 rfl xm0) xm0 xm0) hF46 (xm1 0 rfl (xm1 1 rfl (xm1 2 rfl (xm1 3 rfl (xm1 4 rfl (xm1 5 rfl xm0)))))) (xm1 0 rfl (xm1 2 rfl (xm1 3 rfl (xm1 4 rfl (xm1 5 rfl (xm1 6 rfl (xm1 7 rfl (xm1 8 rfl (xm1 9 rfl (xm1 10 rfl xm0)))))))))) xm0), (t46), (v_X10_later_49_6 (K := K) (F := F) a xq G G4 G46 p0 x46 p1 ha hk9999 hj9999 hk9999a hj9999a hk9999b hj9999b hk9999c hj9999c hk9999d hj9999d hk9999e hj9999e hk9999f hj9999f hk9999g hj9999g hk9999h hj9999i hk9999i hj9999k hk9999j hj9999m hk9999k hj9999o hk9999l hj9999q hk9999m hj9999s hk9999n hj9999t hk9999o hj9999u hk9999p hj9999v hk9999q hj9999w hk9999r hj9999z25 hk9999s hj9999z27 hk9999t hj9999z28 hk9999u hj9999z30 hk9999v hj9999z32 hk12 hF4 hxs bko hs12 oq46 sb sw t4 ht12 (xzi hz24) c28 c35 t46 (hF4.2.1 _ xn0) (hF4.2.1 _ xn0) (hF4.2.1 _ xn0) (hF4.2.1 _ xn0) (hF4.2.1 _ xn0) (hF4.2.1 _ xn0) (hF4.2.2 _ xn0) (hF4.2.2 _ xn0) (hF4.1 _ _ (xnj (by decide) xn0)))⟩ hT
      · refine lv_aload_n hx hb dX10_later_38 rfl (lv_at hl 1 rfl) ?_
        refine lv_aload_n hx hb dX10_later_39 rfl (lv_at hl 0 rfl) ?_
        refine x_cl0 (x_runV (b := a) (As := [.ref xq]) (rest := []) S (c_X10_becomeLate l E K F G4 a xq ha hk12 (by rw [(show (G4.1 (F a 2) 2).toInt = ((G.1 (F a 2) 2).toInt) from (congrArg Int32.toInt (hF4.1 _ _ (xnj (by decide) xn0))).trans (rfl : Int32.toInt (G.1 (F a 2) 2) = ((G.1 (F a 2) 2).toInt)))] <;> exact (sb)) (by rw [(show (G4.1 (F a 8) 6).toInt = ((G.1 (F a 8) 6).toInt) from (congrArg Int32.toInt (hF4.1 _ _ (xnj (by decide) xn0))).trans (rfl : Int32.toInt (G.1 (F a 8) 6) = ((G.1 (F a 8) 6).toInt)))] <;> exact (sw)) (v_X10_later_40_7 (F := F) a G G4 ron rob (hF4.2.1 _ xn0) (hF4.2.1 _ xn0)) (v_X10_later_40_8 (F := F) a G G4 ron rob (hF4.2.1 _ xn0) (hF4.2.1 _ xn0)) (v_X10_later_40_9 (K := K) (F := F) a xq G G4 p0 p1 ha hk9999 hj9999 hk9999a hj9999a hk9999b hj9999b hk9999c hj9999c hk9999d hj9999d hk9999e hj9999e hk9999f hj9999f hk9999g hj9999g hk9999h hj9999i hk9999i hj9999k hk9999j hj9999m hk9999k hj9999o hk9999l hj9999q hk9999m hj9999s hk9999n hj9999t hk9999o hj9999u hk9999p hj9999v hk9999q hj9999w hk9999r hj9999z25 hk9999s hj9999z27 hk9999t hj9999z28 hk9999u hj9999z30 hk9999v hj9999z32 hk12 hF4 hxs bko hs12 sb sw t4 ht12 (xzi hz24) c28 c35 (hF4.2.2 _ xn0))) mv_X10_becomeLate km_X10_173 rfl rfl ⟨Nat.le_of_ble_eq_true rfl, Nat.le_of_ble_eq_true rfl⟩ (rc_12 hK hT ha) hK (fun _ => XP.blind) (fun U hU hW => XP.at hK hz hS hT hU hW) rfl hl.1 (Nat.le_of_ble_eq_true rfl) dX10_later_40 ⟨Nat.le_of_ble_eq_true rfl, Nat.le_of_ble_eq_true rfl⟩) hS ?_
        rintro _ G40 H locs ⟨x40, rfl, hF40, t40, oq40⟩ hT hS
        have t40 : ((G40.1 xq 9).toInt) = 1 ∧ 0 ≤ ((G40.1 (F a 8) 6).toInt) ∧ ((G40.1 (F a 8) 6).toInt) ≤ 1080 := t40
        have oq40 : (((G.1 a 18).toInt) = 0 ∧ qL G40 F (F a 8) = qL G4 F (F a 8) ∧ x40.toInt = 0) ∨ (((G.1 a 18).toInt) ≠ 0 ∧ qL G40 F (F a 8) = (gaL (dput G4 xq 9 1) (G4.2.2.1 (F (F a 2) 1)) (vw (G.2.1 (F (F a 4) 0))) (vw (G.2.1 (F (F a 3) 0))) 1 (((G.1 (F a 2) 2).toInt)).toNat) ∧ x40.toInt = cnQ (qL G40 F (F a 8)) ((G.1 xq 1).toInt)) := by simp only [(show G4.1 a 18 = G.1 a 18 from (hF4.1 _ _ (xnj (by decide) xn0))), (show G4.2.1 (F (F a 4) 0) = G.2.1 (F (F a 4) 0) from (hF4.2.1 _ xn0)), (show G4.2.1 (F (F a 3) 0) = G.2.1 (F (F a 3) 0) from (hF4.2.1 _ xn0)), (show G4.1 (F a 2) 2 = G.1 (F a 2) 2 from (hF4.1 _ _ (xnj (by decide) xn0))), (show G4.1 xq 1 = G.1 xq 1 from (hF4.1 _ _ (xna (xne_k hk12 hk9999 (by decide)) xn0)))] at oq40; exact oq40
        exact x_ri hx hb hr hlk hQ (Nat.le_of_ble_eq_true rfl) (Nat.le_of_ble_eq_true rfl) hS dX10_later_43 G40 ⟨_, rfl, (XFr.call (XFr.call XFr.rf hF4 (xm1 0 rfl xm0) xm0 xm0) hF40 (xm1 3 rfl (xm1 4 rfl (xm1 5 rfl xm0))) (xm1 1 rfl (xm1 2 rfl (xm1 3 rfl (xm1 4 rfl (xm1 5 rfl (xm1 6 rfl (xm1 7 rfl (xm1 8 rfl (xm1 9 rfl (xm1 10 rfl xm0)))))))))) xm0), (z_X10_later_7 ((G40.1 (F a 8) 6).toInt) ((G40.1 xq 9).toInt) t40), (v_X10_later_43_10 (K := K) (F := F) a xq G G4 G40 p0 x40 p1 ha hk9999 hj9999 hk9999a hj9999a hk9999b hj9999b hk9999c hj9999c hk9999d hj9999d hk9999e hj9999e hk9999f hj9999f hk9999g hj9999g hk9999h hj9999i hk9999i hj9999k hk9999j hj9999m hk9999k hj9999o hk9999l hj9999q hk9999m hj9999s hk9999n hj9999t hk9999o hj9999u hk9999p hj9999v hk9999q hj9999w hk9999r hj9999z25 hk9999s hj9999z27 hk9999t hj9999z28 hk9999u hj9999z30 hk9999v hj9999z32 hk12 hF4 hxs bko hs12 oq40 sb sw t4 ht12 (xzi hz24) c28 c35 t40 (hF4.2.1 _ xn0) (hF4.2.1 _ xn0) (hF4.2.1 _ xn0) (hF4.2.1 _ xn0) (hF4.2.1 _ xn0) (hF4.2.1 _ xn0) (hF4.2.2 _ xn0) (hF4.2.2 _ xn0) (hF4.1 _ _ (xnj (by decide) xn0)))⟩ hT
    · refine lv_bipush (v := (-4)) hx hb dX10_later_31 (by decide) ?_
      exact x_ri hx hb hr hlk hQ (Nat.le_of_ble_eq_true rfl) (Nat.le_of_ble_eq_true rfl) hS dX10_later_33 G4 ⟨_, rfl, (XFr.call XFr.rf hF4 (xm1 0 rfl xm0) xm0 xm0), (by rw [(show (G4.1 (F a 8) 6).toInt = ((G.1 (F a 8) 6).toInt) from (congrArg Int32.toInt (hF4.1 _ _ (xnj (by decide) xn0))).trans (rfl : Int32.toInt (G.1 (F a 8) 6) = ((G.1 (F a 8) 6).toInt)))] <;> exact (sw)), (by rw [((by decide) : Int32.toInt (-4) = (-4 : Int))] <;> exact (v_X10_later_33_11 (K := K) (F := F) a xq G G4 p0 p1 ha hxs hs12 sb sw t4 ht12 (xzi hz24) c28 (hF4.2.1 _ xn0) (hF4.2.1 _ xn0) (hF4.2.1 _ xn0) (hF4.2.1 _ xn0) (hF4.2.1 _ xn0) (hF4.2.1 _ xn0) (hF4.2.2 _ xn0) (hF4.1 _ _ (xnj (by decide) xn0)) (hF4.1 _ _ (xnj (by decide) xn0))))⟩ hT
/-! ===== how many bits: as Integer.bitCount counts them ===== -/
theorem and_sp (h k : Nat) {c m : Nat} (hc : c < 256) (hm : m < 256) : (256 * h + c) &&& (256 * k + m) = 256 * (h &&& k) + (c &&& m) := by
  have hc2 : c < 2 ^ 8 := hc
  have hm2 : m < 2 ^ 8 := hm
  have hcm : (c &&& m) < 2 ^ 8 := Nat.and_lt_two_pow c hm2
  apply Nat.eq_of_testBit_eq
  intro j
  show Nat.testBit ((2 ^ 8 * h + c) &&& (2 ^ 8 * k + m)) j = Nat.testBit (2 ^ 8 * (h &&& k) + (c &&& m)) j
  rw [Nat.testBit_and, Nat.testBit_two_pow_mul_add h hc2, Nat.testBit_two_pow_mul_add k hm2, Nat.testBit_two_pow_mul_add (h &&& k) hcm]
  by_cases g : j < 8
  · rw [if_pos g, if_pos g, if_pos g, Nat.testBit_and]
  · rw [if_neg g, if_neg g, if_neg g, Nat.testBit_and]
def pf1 (b : Nat) : Nat := b - ((b / 2) &&& 85)
def pf2 (c : Nat) : Nat := (c &&& 51) + ((c / 4) &&& 51)
def pf3 (d : Nat) : Nat := (d + d / 16) &&& 15
def p8 (b : Nat) : Nat := b % 2 + b / 2 % 2 + b / 4 % 2 + b / 8 % 2 + b / 16 % 2 + b / 32 % 2 + b / 64 % 2 + b / 128 % 2
theorem pf_a : ∀ b : Nat, b < 256 → ((b / 2) &&& 85) ≤ b ∧ pf1 b < 256 := by decide +kernel
theorem pf_b : ∀ b : Nat, b < 256 → (pf1 b &&& 51) + ((pf1 b / 4) &&& 51) ≤ 68 ∧ pf2 (pf1 b) ≤ 68 ∧ pf2 (pf1 b) % 16 ≤ 4 := by decide +kernel
theorem pf_c : ∀ b : Nat, b < 256 → pf3 (pf2 (pf1 b)) = p8 b ∧ pf3 (pf2 (pf1 b)) ≤ 8 := by decide +kernel
theorem pm1 : ∀ b : Nat, b < 256 → ∀ e : Nat, e < 2 → (b / 2 + 128 * e) &&& 85 = (b / 2) &&& 85 := by decide +kernel
theorem pm2 : ∀ c : Nat, c < 256 → ∀ e : Nat, e < 4 → (c / 4 + 64 * e) &&& 51 = (c / 4) &&& 51 := by decide +kernel
theorem pm3 : ∀ d : Nat, d < 69 → ∀ e : Nat, e < 16 → (d + d / 16 + 16 * e) &&& 15 = (d + d / 16) &&& 15 := by decide +kernel
theorem n4_and (b0 b1 b2 b3 m : Nat) (h0 : b0 < 256) (h1 : b1 < 256) (h2 : b2 < 256) (hm : m < 256) : (256 * (256 * (256 * b3 + b2) + b1) + b0) &&& (256 * (256 * (256 * m + m) + m) + m) = 256 * (256 * (256 * (b3 &&& m) + (b2 &&& m)) + (b1 &&& m)) + (b0 &&& m) := by
  rw [and_sp _ _ h0 hm, and_sp _ _ h1 hm, and_sp _ _ h2 hm]
theorem ps1 (b0 b1 b2 b3 : Nat) (h0 : b0 < 256) (h1 : b1 < 256) (h2 : b2 < 256) : ((256 * (256 * (256 * b3 + b2) + b1) + b0) / 2) &&& 1431655765 = 256 * (256 * (256 * ((b3 / 2) &&& 85) + ((b2 / 2) &&& 85)) + ((b1 / 2) &&& 85)) + ((b0 / 2) &&& 85) := by
  have e : (256 * (256 * (256 * b3 + b2) + b1) + b0) / 2 = 256 * (256 * (256 * (b3 / 2) + (b2 / 2 + 128 * (b3 % 2))) + (b1 / 2 + 128 * (b2 % 2))) + (b0 / 2 + 128 * (b1 % 2)) := by omega
  have em : (1431655765 : Nat) = 256 * (256 * (256 * 85 + 85) + 85) + 85 := by decide
  rw [e, em, n4_and _ _ _ _ _ (by omega) (by omega) (by omega) (by decide), pm1 b0 h0 _ (by omega), pm1 b1 h1 _ (by omega), pm1 b2 h2 _ (by omega)]
theorem ps2 (b0 b1 b2 b3 : Nat) (h0 : b0 < 256) (h1 : b1 < 256) (h2 : b2 < 256) : ((256 * (256 * (256 * b3 + b2) + b1) + b0) / 4) &&& 858993459 = 256 * (256 * (256 * ((b3 / 4) &&& 51) + ((b2 / 4) &&& 51)) + ((b1 / 4) &&& 51)) + ((b0 / 4) &&& 51) := by
  have e : (256 * (256 * (256 * b3 + b2) + b1) + b0) / 4 = 256 * (256 * (256 * (b3 / 4) + (b2 / 4 + 64 * (b3 % 4))) + (b1 / 4 + 64 * (b2 % 4))) + (b0 / 4 + 64 * (b1 % 4)) := by omega
  have em : (858993459 : Nat) = 256 * (256 * (256 * 51 + 51) + 51) + 51 := by decide
  rw [e, em, n4_and _ _ _ _ _ (by omega) (by omega) (by omega) (by decide), pm2 b0 h0 _ (by omega), pm2 b1 h1 _ (by omega), pm2 b2 h2 _ (by omega)]
theorem ps2b (b0 b1 b2 b3 : Nat) (h0 : b0 < 256) (h1 : b1 < 256) (h2 : b2 < 256) : (256 * (256 * (256 * b3 + b2) + b1) + b0) &&& 858993459 = 256 * (256 * (256 * (b3 &&& 51) + (b2 &&& 51)) + (b1 &&& 51)) + (b0 &&& 51) := by
  have em : (858993459 : Nat) = 256 * (256 * (256 * 51 + 51) + 51) + 51 := by decide
  rw [em, n4_and _ _ _ _ _ h0 h1 h2 (by decide)]
theorem ps3 (d0 d1 d2 d3 : Nat) (h0 : d0 ≤ 68) (h1 : d1 ≤ 68) (h2 : d2 ≤ 68) (h3 : d3 ≤ 68) (g1 : d1 % 16 ≤ 4) (g2 : d2 % 16 ≤ 4) (g3 : d3 % 16 ≤ 4) : (256 * (256 * (256 * d3 + d2) + d1) + d0 + (256 * (256 * (256 * d3 + d2) + d1) + d0) / 16) &&& 252645135 = 256 * (256 * (256 * pf3 d3 + pf3 d2) + pf3 d1) + pf3 d0 := by
  have e : 256 * (256 * (256 * d3 + d2) + d1) + d0 + (256 * (256 * (256 * d3 + d2) + d1) + d0) / 16 = 256 * (256 * (256 * (d3 + d3 / 16) + (d2 + d2 / 16 + 16 * (d3 % 16))) + (d1 + d1 / 16 + 16 * (d2 % 16))) + (d0 + d0 / 16 + 16 * (d1 % 16)) := by omega
  have em : (252645135 : Nat) = 256 * (256 * (256 * 15 + 15) + 15) + 15 := by decide
  rw [e, em, n4_and _ _ _ _ _ (by omega) (by omega) (by omega) (by decide), pm3 d0 (by omega) _ (by omega), pm3 d1 (by omega) _ (by omega), pm3 d2 (by omega) _ (by omega)]
  rfl
def p32 (n : Nat) : Nat := p8 (n % 256) + p8 (n / 256 % 256) + p8 (n / 65536 % 256) + p8 (n / 16777216 % 256)
/-- the whole count, step by step -/
theorem pop_all {n a1 y1 a2 a3 y2 y3 y4 y5 r : Nat} (hn : n < 4294967296) (e1 : a1 = (n / 2) &&& 1431655765) (e2 : y1 = n - a1) (e3 : a2 = y1 &&& 858993459) (e4 : a3 = (y1 / 4) &&& 858993459) (e5 : y2 = a2 + a3) (e6 : y3 = (y2 + y2 / 16) &&& 252645135) (e7 : y4 = y3 + y3 / 256) (e8 : y5 = y4 + y4 / 65536) (e9 : r = y5 &&& 63) : r = p32 n := by
  obtain ⟨b0, eb0⟩ : ∃ b, b = n % 256 := ⟨_, rfl⟩
  obtain ⟨b1, eb1⟩ : ∃ b, b = n / 256 % 256 := ⟨_, rfl⟩
  obtain ⟨b2, eb2⟩ : ∃ b, b = n / 65536 % 256 := ⟨_, rfl⟩
  obtain ⟨b3, eb3⟩ : ∃ b, b = n / 16777216 % 256 := ⟨_, rfl⟩
  have h0 : b0 < 256 := by omega
  have h1 : b1 < 256 := by omega
  have h2 : b2 < 256 := by omega
  have h3 : b3 < 256 := by omega
  have en : n = 256 * (256 * (256 * b3 + b2) + b1) + b0 := by omega
  unfold p32
  rw [← eb0, ← eb1, ← eb2, ← eb3]
  clear eb0 eb1 eb2 eb3 hn
  rw [en, ps1 b0 b1 b2 b3 h0 h1 h2] at e1
  obtain ⟨A0, B0⟩ := pf_a b0 h0
  obtain ⟨A1, B1⟩ := pf_a b1 h1
  obtain ⟨A2, B2⟩ := pf_a b2 h2
  obtain ⟨A3, B3⟩ := pf_a b3 h3
  have f : ∀ b, pf1 b = b - ((b / 2) &&& 85) := fun _ => rfl
  have ey1 : y1 = 256 * (256 * (256 * pf1 b3 + pf1 b2) + pf1 b1) + pf1 b0 := by
    rw [e2, en, e1, f b0, f b1, f b2, f b3]
    generalize (b0 / 2) &&& 85 = t0 at *
    generalize (b1 / 2) &&& 85 = t1 at *
    generalize (b2 / 2) &&& 85 = t2 at *
    generalize (b3 / 2) &&& 85 = t3 at *
    clear f
    omega
  rw [ey1, ps2b _ _ _ _ B0 B1 B2] at e3
  rw [ey1, ps2 _ _ _ _ B0 B1 B2] at e4
  obtain ⟨-, C0, D0⟩ := pf_b b0 h0
  obtain ⟨-, C1, D1⟩ := pf_b b1 h1
  obtain ⟨-, C2, D2⟩ := pf_b b2 h2
  obtain ⟨-, C3, D3⟩ := pf_b b3 h3
  have g : ∀ c, pf2 c = (c &&& 51) + ((c / 4) &&& 51) := fun _ => rfl
  have ey2 : y2 = 256 * (256 * (256 * pf2 (pf1 b3) + pf2 (pf1 b2)) + pf2 (pf1 b1)) + pf2 (pf1 b0) := by
    rw [e5, e3, e4, g (pf1 b0), g (pf1 b1), g (pf1 b2), g (pf1 b3)]
    omega
  rw [ey2, ps3 _ _ _ _ C0 C1 C2 C3 D1 D2 D3] at e6
  obtain ⟨E0, F0⟩ := pf_c b0 h0
  obtain ⟨E1, F1⟩ := pf_c b1 h1
  obtain ⟨E2, F2⟩ := pf_c b2 h2
  obtain ⟨E3, F3⟩ := pf_c b3 h3
  rw [E0, E1, E2, E3] at e6
  rw [E0] at F0
  rw [E1] at F1
  rw [E2] at F2
  rw [E3] at F3
  have e9 : r = y5 % 64 := by rw [e9]; exact Nat.and_two_pow_sub_one_eq_mod y5 6
  generalize p8 b0 = q0 at *
  generalize p8 b1 = q1 at *
  generalize p8 b2 = q2 at *
  generalize p8 b3 = q3 at *
  clear e1 e2 e3 e4 e5 ey1 ey2 en A0 A1 A2 A3 B0 B1 B2 B3 C0 C1 C2 C3 D0 D1 D2 D3 E0 E1 E2 E3 f g h0 h1 h2 h3
  have k1 : y3 / 256 = 65536 * q3 + 256 * q2 + q1 := by clear e7 e8 e9; omega
  rw [k1] at e7
  have k2 : y4 = 16777216 * q3 + 65536 * (q2 + q3) + 256 * (q1 + q2) + (q0 + q1) := by clear e8 e9 k1; omega
  have k3 : y4 / 65536 = 256 * q3 + (q2 + q3) := by clear e6 e7 e8 e9 k1; omega
  rw [k3, k2] at e8
  clear e6 e7 k1 k2 k3
  have k4 : y5 = 64 * (262144 * q3 + 1024 * (q2 + q3) + 4 * (q1 + q2) + 4 * q3) + (q0 + q1 + q2 + q3) := by clear e9; omega
  rw [e9, k4, Nat.mul_add_mod, Nat.mod_eq_of_lt (by clear e8 e9 k4; omega)]
/-! the shifts, the masks -/
theorem u_nat {x : Int32} (h : 0 ≤ x.toInt) : (Int32.toUInt32 x).toNat = x.toInt.toNat := by
  show x.toBitVec.toNat = x.toBitVec.toInt.toNat
  have h2 : 0 ≤ x.toBitVec.toInt := h
  rw [BitVec.toInt_eq_toNat_cond] at h2 ⊢
  split at h2
  · rw [if_pos (by assumption)]; omega
  · exfalso
    have := x.toBitVec.isLt
    omega
theorem ushr_n {x y k : Int32} {s : Nat} (hy : y = (Int32.toUInt32 x >>> (Int32.toUInt32 k &&& Int32.toUInt32 31)).toInt32) (hk : (Int32.toUInt32 k &&& Int32.toUInt32 31).toNat % 32 = s) (h : 0 ≤ x.toInt) : y.toInt = ((x.toInt.toNat / 2 ^ s : Nat) : Int) := by
  have e2 : (Int32.toUInt32 x >>> (Int32.toUInt32 k &&& Int32.toUInt32 31)).toNat = x.toInt.toNat / 2 ^ s := by
    rw [UInt32.toNat_shiftRight, hk, u_nat h, Nat.shiftRight_eq_div_pow]
  have lt : x.toInt.toNat / 2 ^ s ≤ x.toInt.toNat := Nat.div_le_self _ _
  have hx := Int32.toInt_lt x
  subst hy
  show BitVec.toInt (Int32.toUInt32 x >>> (Int32.toUInt32 k &&& Int32.toUInt32 31)).toBitVec = _
  rw [BitVec.toInt_eq_toNat_of_lt]
  · exact congrArg Int.ofNat e2
  · have e3 : (Int32.toUInt32 x >>> (Int32.toUInt32 k &&& Int32.toUInt32 31)).toBitVec.toNat = x.toInt.toNat / 2 ^ s := e2
    rw [e3]
    omega
theorem and_n {x m w : Int32} (hw : w = x &&& m) (hx : 0 ≤ x.toInt) (hm : 0 ≤ m.toInt) : w.toInt = ((x.toInt.toNat &&& m.toInt.toNat : Nat) : Int) := by
  have ex : x.toBitVec.toNat = x.toInt.toNat := u_nat hx
  have em : m.toBitVec.toNat = m.toInt.toNat := u_nat hm
  have e2 : w.toBitVec.toNat = x.toInt.toNat &&& m.toInt.toNat := by
    rw [hw, Int32.toBitVec_and, BitVec.toNat_and, ex, em]
  have le : (x.toInt.toNat &&& m.toInt.toNat) ≤ x.toInt.toNat := Nat.and_le_left
  have hl := Int32.toInt_lt x
  show w.toBitVec.toInt = _
  rw [BitVec.toInt_eq_toNat_of_lt (by rw [e2]; omega), e2]
/-! the bits of a number -/
theorem p8_bits (b : Nat) : p8 b = (b.testBit 0).toNat + (b.testBit 1).toNat + (b.testBit 2).toNat + (b.testBit 3).toNat + (b.testBit 4).toNat + (b.testBit 5).toNat + (b.testBit 6).toNat + (b.testBit 7).toNat := by
  have key : ∀ z : Nat, z % 2 = (decide (z % 2 = 1)).toNat := fun z => by
    rcases Nat.mod_two_eq_zero_or_one z with h | h <;> rw [h] <;> rfl
  have q : ∀ j : Nat, b / 2 ^ j % 2 = (b.testBit j).toNat := fun j => by
    rw [Nat.testBit_eq_decide_div_mod_eq]; exact key _
  have q0 : b % 2 = (b.testBit 0).toNat := by rw [← q 0, Nat.pow_zero, Nat.div_one]
  have q1 : b / 2 % 2 = (b.testBit 1).toNat := q 1
  have q2 : b / 4 % 2 = (b.testBit 2).toNat := q 2
  have q3 : b / 8 % 2 = (b.testBit 3).toNat := q 3
  have q4 : b / 16 % 2 = (b.testBit 4).toNat := q 4
  have q5 : b / 32 % 2 = (b.testBit 5).toNat := q 5
  have q6 : b / 64 % 2 = (b.testBit 6).toNat := q 6
  have q7 : b / 128 % 2 = (b.testBit 7).toNat := q 7
  unfold p8
  rw [q0, q1, q2, q3, q4, q5, q6, q7]
theorem bI_tb {x : Int32} {X : Int} (h : x.toInt = X) (h0 : 0 ≤ X) (k : Nat) : bI X (k : Int) = (((X.toNat.testBit k).toNat : Nat) : Int) := by
  rw [bI_of h]
  have e : bt x ((k : Int)).toNat = X.toNat.testBit k := by
    unfold bt
    show x.toBitVec.toNat.testBit k = _
    rw [show x.toBitVec.toNat = x.toInt.toNat from u_nat (by omega), h]
  rw [e]
  cases X.toNat.testBit k <;> rfl
theorem tb_byte (n i j : Nat) (hj : j < 8) : (n / 2 ^ i % 2 ^ 8).testBit j = n.testBit (j + i) := by
  rw [Nat.testBit_mod_two_pow, Nat.testBit_div_two_pow, decide_eq_true hj, Bool.true_and]
theorem p8_at (n i : Nat) : p8 (n / 2 ^ i % 2 ^ 8) = (n.testBit (0 + i)).toNat + (n.testBit (1 + i)).toNat + (n.testBit (2 + i)).toNat + (n.testBit (3 + i)).toNat + (n.testBit (4 + i)).toNat + (n.testBit (5 + i)).toNat + (n.testBit (6 + i)).toNat + (n.testBit (7 + i)).toNat := by
  rw [p8_bits, tb_byte n i 0 (by decide), tb_byte n i 1 (by decide), tb_byte n i 2 (by decide), tb_byte n i 3 (by decide), tb_byte n i 4 (by decide), tb_byte n i 5 (by decide), tb_byte n i 6 (by decide), tb_byte n i 7 (by decide)]
theorem p32_at (n : Nat) : p32 n = ((n.testBit (0 + 0)).toNat + (n.testBit (1 + 0)).toNat + (n.testBit (2 + 0)).toNat + (n.testBit (3 + 0)).toNat + (n.testBit (4 + 0)).toNat + (n.testBit (5 + 0)).toNat + (n.testBit (6 + 0)).toNat + (n.testBit (7 + 0)).toNat) + ((n.testBit (0 + 8)).toNat + (n.testBit (1 + 8)).toNat + (n.testBit (2 + 8)).toNat + (n.testBit (3 + 8)).toNat + (n.testBit (4 + 8)).toNat + (n.testBit (5 + 8)).toNat + (n.testBit (6 + 8)).toNat + (n.testBit (7 + 8)).toNat) + ((n.testBit (0 + 16)).toNat + (n.testBit (1 + 16)).toNat + (n.testBit (2 + 16)).toNat + (n.testBit (3 + 16)).toNat + (n.testBit (4 + 16)).toNat + (n.testBit (5 + 16)).toNat + (n.testBit (6 + 16)).toNat + (n.testBit (7 + 16)).toNat) + ((n.testBit (0 + 24)).toNat + (n.testBit (1 + 24)).toNat + (n.testBit (2 + 24)).toNat + (n.testBit (3 + 24)).toNat + (n.testBit (4 + 24)).toNat + (n.testBit (5 + 24)).toNat + (n.testBit (6 + 24)).toNat + (n.testBit (7 + 24)).toNat) := by
  have e0 : n % 256 = n / 2 ^ 0 % 2 ^ 8 := by rw [Nat.pow_zero, Nat.div_one]
  unfold p32
  rw [e0, show n / 256 % 256 = n / 2 ^ 8 % 2 ^ 8 from rfl, show n / 65536 % 256 = n / 2 ^ 16 % 2 ^ 8 from rfl, show n / 16777216 % 256 = n / 2 ^ 24 % 2 ^ 8 from rfl, p8_at, p8_at, p8_at, p8_at]
theorem pop_bsm {x : Int32} {X : Int} (h : x.toInt = X) (h0 : 0 ≤ X) (z0 : bI X 30 = 0) (z1 : bI X 31 = 0) : ((p32 X.toNat : Nat) : Int) = bsm (bI X) 30 := by
  have e : bsm (bI X) 30 = 0 + bI X ((0 : Nat) : Int) + bI X ((1 : Nat) : Int) + bI X ((2 : Nat) : Int) + bI X ((3 : Nat) : Int) + bI X ((4 : Nat) : Int) + bI X ((5 : Nat) : Int) + bI X ((6 : Nat) : Int) + bI X ((7 : Nat) : Int) + bI X ((8 : Nat) : Int) + bI X ((9 : Nat) : Int) + bI X ((10 : Nat) : Int) + bI X ((11 : Nat) : Int) + bI X ((12 : Nat) : Int) + bI X ((13 : Nat) : Int) + bI X ((14 : Nat) : Int) + bI X ((15 : Nat) : Int) + bI X ((16 : Nat) : Int) + bI X ((17 : Nat) : Int) + bI X ((18 : Nat) : Int) + bI X ((19 : Nat) : Int) + bI X ((20 : Nat) : Int) + bI X ((21 : Nat) : Int) + bI X ((22 : Nat) : Int) + bI X ((23 : Nat) : Int) + bI X ((24 : Nat) : Int) + bI X ((25 : Nat) : Int) + bI X ((26 : Nat) : Int) + bI X ((27 : Nat) : Int) + bI X ((28 : Nat) : Int) + bI X ((29 : Nat) : Int) := rfl
  have z0 : bI X ((30 : Nat) : Int) = 0 := z0
  have z1 : bI X ((31 : Nat) : Int) = 0 := z1
  rw [bI_tb h h0] at z0 z1
  rw [e, bI_tb h h0 0, bI_tb h h0 1, bI_tb h h0 2, bI_tb h h0 3, bI_tb h h0 4, bI_tb h h0 5, bI_tb h h0 6, bI_tb h h0 7, bI_tb h h0 8, bI_tb h h0 9, bI_tb h h0 10, bI_tb h h0 11, bI_tb h h0 12, bI_tb h h0 13, bI_tb h h0 14, bI_tb h h0 15, bI_tb h h0 16, bI_tb h h0 17, bI_tb h h0 18, bI_tb h h0 19, bI_tb h h0 20, bI_tb h h0 21, bI_tb h h0 22, bI_tb h h0 23, bI_tb h h0 24, bI_tb h h0 25, bI_tb h h0 26, bI_tb h h0 27, bI_tb h h0 28, bI_tb h h0 29, p32_at]
  show ((((X.toNat.testBit 0).toNat + (X.toNat.testBit 1).toNat + (X.toNat.testBit 2).toNat + (X.toNat.testBit 3).toNat + (X.toNat.testBit 4).toNat + (X.toNat.testBit 5).toNat + (X.toNat.testBit 6).toNat + (X.toNat.testBit 7).toNat) + ((X.toNat.testBit 8).toNat + (X.toNat.testBit 9).toNat + (X.toNat.testBit 10).toNat + (X.toNat.testBit 11).toNat + (X.toNat.testBit 12).toNat + (X.toNat.testBit 13).toNat + (X.toNat.testBit 14).toNat + (X.toNat.testBit 15).toNat) + ((X.toNat.testBit 16).toNat + (X.toNat.testBit 17).toNat + (X.toNat.testBit 18).toNat + (X.toNat.testBit 19).toNat + (X.toNat.testBit 20).toNat + (X.toNat.testBit 21).toNat + (X.toNat.testBit 22).toNat + (X.toNat.testBit 23).toNat) + ((X.toNat.testBit 24).toNat + (X.toNat.testBit 25).toNat + (X.toNat.testBit 26).toNat + (X.toNat.testBit 27).toNat + (X.toNat.testBit 28).toNat + (X.toNat.testBit 29).toNat + (X.toNat.testBit 30).toNat + (X.toNat.testBit 31).toNat) : Nat) : Int) = _
  omega
/-- a number of bits below 31 is none below 0 -/
theorem bI_pos {x : Int32} {X : Int} (h : x.toInt = X) (z1 : bI X 31 = 0) : 0 ≤ X := by
  apply Classical.byContradiction
  intro g
  have e : bt x 31 = true := by
    unfold bt
    show x.toBitVec.toNat.testBit 31 = true
    have e2 : x.toInt = x.toBitVec.toInt := rfl
    rw [BitVec.toInt_eq_toNat_cond] at e2
    have hl := x.toBitVec.isLt
    split at e2
    · exfalso; omega
    · rw [Nat.testBit_eq_decide_div_mod_eq]
      exact decide_eq_true (by omega)
  rw [bI_of h] at z1
  have e3 : bt x ((31 : Int)).toNat = true := e
  rw [e3] at z1
  exact absurd z1 (by decide)
theorem add_n {x y z : Int32} {a b : Nat} (t : z.toInt = x.toInt + y.toInt ∨ x.toInt + y.toInt < -2147483648 ∨ 2147483648 ≤ x.toInt + y.toInt) (hx : x.toInt = (a : Int)) (hy : y.toInt = (b : Int)) (h : a + b < 2147483648) : z.toInt = ((a + b : Nat) : Int) := by omega
theorem sub_n {x y z : Int32} {a b : Nat} (t : z.toInt = x.toInt - y.toInt ∨ x.toInt - y.toInt < -2147483648 ∨ 2147483648 ≤ x.toInt - y.toInt) (hx : x.toInt = (a : Int)) (hy : y.toInt = (b : Int)) (h : b ≤ a) (ha : a < 2147483648) : z.toInt = ((a - b : Nat) : Int) := by omega
theorem ushr_m {x y k : Int32} {s a : Nat} (hy : y = (Int32.toUInt32 x >>> (Int32.toUInt32 k &&& Int32.toUInt32 31)).toInt32) (hk : (Int32.toUInt32 k &&& Int32.toUInt32 31).toNat % 32 = s) (hx : x.toInt = (a : Int)) : y.toInt = ((a / 2 ^ s : Nat) : Int) := by
  have e := ushr_n hy hk (by omega)
  rw [hx] at e
  exact e
theorem and_m {x m w : Int32} {a c : Nat} (hw : w = x &&& m) (hx : x.toInt = (a : Int)) (hm : m.toInt = (c : Int)) : w.toInt = ((a &&& c : Nat) : Int) := by
  have e := and_n hw (by omega) (by omega)
  rw [hx, hm] at e
  exact e
theorem bc_all {p x3 x7 x8 x14 x17 x21 x22 x27 x28 x32 x38 x39 x45 x46 x50 : Int32} (h0 : 0 ≤ p.toInt) (eb3 : x3 = (Int32.toUInt32 p >>> (Int32.toUInt32 1 &&& Int32.toUInt32 31)).toInt32) (he7 : x7 = x3 &&& 1431655765) (t8 : x8.toInt = p.toInt - x7.toInt ∨ p.toInt - x7.toInt < -2147483648 ∨ 2147483648 ≤ p.toInt - x7.toInt) (he14 : x14 = x8 &&& 858993459) (eb17 : x17 = (Int32.toUInt32 x8 >>> (Int32.toUInt32 2 &&& Int32.toUInt32 31)).toInt32) (he21 : x21 = x17 &&& 858993459) (t22 : x22.toInt = x14.toInt + x21.toInt ∨ x14.toInt + x21.toInt < -2147483648 ∨ 2147483648 ≤ x14.toInt + x21.toInt) (eb27 : x27 = (Int32.toUInt32 x22 >>> (Int32.toUInt32 4 &&& Int32.toUInt32 31)).toInt32) (t28 : x28.toInt = x22.toInt + x27.toInt ∨ x22.toInt + x27.toInt < -2147483648 ∨ 2147483648 ≤ x22.toInt + x27.toInt) (he32 : x32 = x28 &&& 252645135) (eb38 : x38 = (Int32.toUInt32 x32 >>> (Int32.toUInt32 8 &&& Int32.toUInt32 31)).toInt32) (t39 : x39.toInt = x32.toInt + x38.toInt ∨ x32.toInt + x38.toInt < -2147483648 ∨ 2147483648 ≤ x32.toInt + x38.toInt) (eb45 : x45 = (Int32.toUInt32 x39 >>> (Int32.toUInt32 16 &&& Int32.toUInt32 31)).toInt32) (t46 : x46.toInt = x39.toInt + x45.toInt ∨ x39.toInt + x45.toInt < -2147483648 ∨ 2147483648 ≤ x39.toInt + x45.toInt) (he50 : x50 = x46 &&& 63) : x50.toInt = ((p32 p.toInt.toNat : Nat) : Int) := by
  obtain ⟨n, en⟩ : ∃ n : Nat, p.toInt = (n : Int) := ⟨p.toInt.toNat, by clear eb3 he7 t8 he14 eb17 he21 t22 eb27 t28 he32 eb38 t39 eb45 t46 he50; omega⟩
  have hn : n < 2147483648 := by
    have hp := Int32.toInt_lt p
    clear eb3 he7 t8 he14 eb17 he21 t22 eb27 t28 he32 eb38 t39 eb45 t46 he50
    omega
  have s3 : x3.toInt = ((n / 2 : Nat) : Int) := ushr_m (s := 1) eb3 (by decide) en
  have s7 : x7.toInt = ((n / 2 &&& 1431655765 : Nat) : Int) := and_m he7 s3 (by decide)
  have b7 : (n / 2 &&& 1431655765) ≤ n := Nat.le_trans Nat.and_le_left (Nat.div_le_self _ _)
  obtain ⟨a1, ea1⟩ : ∃ a, a = (n / 2) &&& 1431655765 := ⟨_, rfl⟩
  rw [← ea1] at s7 b7
  have s8 := sub_n t8 en s7 b7 hn
  have b8 : n - a1 < 2147483648 := Nat.lt_of_le_of_lt (Nat.sub_le _ _) hn
  obtain ⟨y1, ey1⟩ : ∃ a, a = n - a1 := ⟨_, rfl⟩
  rw [← ey1] at s8 b8
  have s14 : x14.toInt = ((y1 &&& 858993459 : Nat) : Int) := and_m he14 s8 (by decide)
  have b14 : (y1 &&& 858993459) ≤ 858993459 := Nat.and_le_right
  have s17 : x17.toInt = ((y1 / 4 : Nat) : Int) := ushr_m (s := 2) eb17 (by decide) s8
  have s21 : x21.toInt = ((y1 / 4 &&& 858993459 : Nat) : Int) := and_m he21 s17 (by decide)
  have b21 : (y1 / 4 &&& 858993459) ≤ 858993459 := Nat.and_le_right
  obtain ⟨a2, ea2⟩ : ∃ a, a = y1 &&& 858993459 := ⟨_, rfl⟩
  obtain ⟨a3, ea3⟩ : ∃ a, a = (y1 / 4) &&& 858993459 := ⟨_, rfl⟩
  rw [← ea2] at s14 b14
  rw [← ea3] at s21 b21
  have b22 : a2 + a3 ≤ 1717986918 := Nat.add_le_add b14 b21
  have s22 := add_n t22 s14 s21 (Nat.lt_of_le_of_lt b22 (by decide))
  obtain ⟨y2, ey2⟩ : ∃ a, a = a2 + a3 := ⟨_, rfl⟩
  rw [← ey2] at s22 b22
  have s27 : x27.toInt = ((y2 / 16 : Nat) : Int) := ushr_m (s := 4) eb27 (by decide) s22
  have b27 : y2 / 16 ≤ 107374182 := Nat.div_le_div_right (c := 16) b22
  have s28 := add_n t28 s22 s27 (Nat.lt_of_le_of_lt (Nat.add_le_add b22 b27) (by decide))
  have s32 : x32.toInt = (((y2 + y2 / 16) &&& 252645135 : Nat) : Int) := and_m he32 s28 (by decide)
  have b32 : ((y2 + y2 / 16) &&& 252645135) ≤ 252645135 := Nat.and_le_right
  obtain ⟨y3, ey3⟩ : ∃ a, a = (y2 + y2 / 16) &&& 252645135 := ⟨_, rfl⟩
  rw [← ey3] at s32 b32
  have s38 : x38.toInt = ((y3 / 256 : Nat) : Int) := ushr_m (s := 8) eb38 (by decide) s32
  have b38 : y3 / 256 ≤ 986895 := Nat.div_le_div_right (c := 256) b32
  have b39 : y3 + y3 / 256 ≤ 253632030 := Nat.add_le_add b32 b38
  have s39 := add_n t39 s32 s38 (Nat.lt_of_le_of_lt b39 (by decide))
  obtain ⟨y4, ey4⟩ : ∃ a, a = y3 + y3 / 256 := ⟨_, rfl⟩
  rw [← ey4] at s39 b39
  have s45 : x45.toInt = ((y4 / 65536 : Nat) : Int) := ushr_m (s := 16) eb45 (by decide) s39
  have b45 : y4 / 65536 ≤ 3870 := Nat.div_le_div_right (c := 65536) b39
  have s46 := add_n t46 s39 s45 (Nat.lt_of_le_of_lt (Nat.add_le_add b39 b45) (by decide))
  obtain ⟨y5, ey5⟩ : ∃ a, a = y4 + y4 / 65536 := ⟨_, rfl⟩
  rw [← ey5] at s46
  have s50 : x50.toInt = ((y5 &&& 63 : Nat) : Int) := and_m he50 s46 (by decide)
  obtain ⟨r, er⟩ : ∃ a, a = y5 &&& 63 := ⟨_, rfl⟩
  rw [← er] at s50
  have f := pop_all (n := n) (Nat.lt_trans hn (by decide)) ea1 ey1 ea2 ea3 ey2 ey3 ey4 ey5 er
  rw [s50, en, f]
  rfl
theorem bsm_b {f : Int → Int} : ∀ n : Nat, (∀ k : Nat, k < n → f k = 0 ∨ f k = 1) → 0 ≤ bsm f n ∧ bsm f n ≤ (n : Int)
  | 0, _ => ⟨Int.le_refl _, Int.le_refl _⟩
  | n + 1, h => by
    have ih := bsm_b n (fun k hk => h k (by omega))
    have hn := h n (by omega)
    show 0 ≤ bsm f n + f n ∧ bsm f n + f n ≤ ((n + 1 : Nat) : Int)
    omega
def szB (b : Int → Int) (t : Int) : Int := bsm (bI (b t)) 30
theorem szB_b (b : Int → Int) (t : Int) : 0 ≤ szB b t ∧ szB b t ≤ 30 := bsm_b 30 (fun k _ => bI01 (b t) k)
theorem sz_p {r b : Int → Int} {p x : Int} {z : Int32} (hro : RO r b) (hz : z.toInt = b p) (t2 : (0 ≤ p ∧ p < 3 ∧ x = b p) ∨ ((p < 0 ∨ 3 ≤ p) ∧ x = 0)) : 0 ≤ x := by
  rcases t2 with ⟨h1, h3, h2⟩ | ⟨-, h2⟩
  · rw [h2]; exact bI_pos hz (hro.2.2 p 31 h1 h3 (by decide) (by decide))
  · omega
theorem sz_bd {r b : Int → Int} {p x y : Int} {z : Int32} (hro : RO r b) (hz : z.toInt = b p) (t2 : (0 ≤ p ∧ p < 3 ∧ x = b p) ∨ ((p < 0 ∨ 3 ≤ p) ∧ x = 0)) (h : y = ((p32 x.toNat : Nat) : Int)) : (((0 ≤ p ∧ p < 3) ∧ y = szB b p) ∨ (¬ (0 ≤ p ∧ p < 3) ∧ y = 0)) ∧ (0 ≤ y ∧ y ≤ 30) := by
  have h0 := sz_p hro hz t2
  rcases t2 with ⟨h1, h3, h2⟩ | ⟨h1, h2⟩
  · have e : y = szB b p := by
      rw [h, h2]
      exact pop_bsm hz (by omega) (hro.2.2 p 30 h1 h3 (by decide) (by decide)) (hro.2.2 p 31 h1 h3 (by decide) (by decide))
    exact ⟨Or.inl ⟨⟨h1, h3⟩, e⟩, by rw [e]; exact szB_b b p⟩
  · have e : y = 0 := by rw [h, h2]; rfl
    exact ⟨Or.inr ⟨by omega, e⟩, by omega⟩
def toB (b : Int → Int) (n : Int) : Int := bsm (szB b) n.toNat
theorem toB_0 (b : Int → Int) : toB b 0 = 0 := rfl
theorem toB_s (b : Int → Int) {n : Int} (h : 0 ≤ n) : toB b (n + 1) = toB b n + szB b n := by
  have e : (n + 1).toNat = n.toNat + 1 := by omega
  have e2 : ((n.toNat : Nat) : Int) = n := by omega
  unfold toB
  rw [e]
  show bsm (szB b) n.toNat + szB b ((n.toNat : Nat) : Int) = _
  rw [e2]
theorem v_J6_bitCount_0f7a4_52_1 (x3 : Int32) (p0 : Int32) (x7 : Int32) (x14 : Int32) (x8 : Int32) (x17 : Int32) (x21 : Int32) (x27 : Int32) (x22 : Int32) (x32 : Int32) (x28 : Int32) (x38 : Int32) (x45 : Int32) (x39 : Int32) (x51 : Int32) (x46 : Int32)
    (eb3 : x3 = (Int32.toUInt32 p0 >>> (Int32.toUInt32 1 &&& Int32.toUInt32 31)).toInt32)
    (he7 : x7 = x3 &&& 1431655765)
    (he14 : x14 = x8 &&& 858993459)
    (eb17 : x17 = (Int32.toUInt32 x8 >>> (Int32.toUInt32 2 &&& Int32.toUInt32 31)).toInt32)
    (he21 : x21 = x17 &&& 858993459)
    (eb27 : x27 = (Int32.toUInt32 x22 >>> (Int32.toUInt32 4 &&& Int32.toUInt32 31)).toInt32)
    (he32 : x32 = x28 &&& 252645135)
    (eb38 : x38 = (Int32.toUInt32 x32 >>> (Int32.toUInt32 8 &&& Int32.toUInt32 31)).toInt32)
    (eb45 : x45 = (Int32.toUInt32 x39 >>> (Int32.toUInt32 16 &&& Int32.toUInt32 31)).toInt32)
    (he51 : x51 = x46 &&& 63)
    (n0 : 0 ≤ p0.toInt)
    (t8 : x8.toInt = p0.toInt - x7.toInt ∨ p0.toInt - x7.toInt < -2147483648 ∨ 2147483648 ≤ p0.toInt - x7.toInt)
    (t22 : x22.toInt = x14.toInt + x21.toInt ∨ x14.toInt + x21.toInt < -2147483648 ∨ 2147483648 ≤ x14.toInt + x21.toInt)
    (t28 : x28.toInt = x22.toInt + x27.toInt ∨ x22.toInt + x27.toInt < -2147483648 ∨ 2147483648 ≤ x22.toInt + x27.toInt)
    (t39 : x39.toInt = x32.toInt + x38.toInt ∨ x32.toInt + x38.toInt < -2147483648 ∨ 2147483648 ≤ x32.toInt + x38.toInt)
    (t46 : x46.toInt = x39.toInt + x45.toInt ∨ x39.toInt + x45.toInt < -2147483648 ∨ 2147483648 ≤ x39.toInt + x45.toInt) :
    x51.toInt = ((p32 (p0.toInt).toNat : Nat) : Int) := by
  exact bc_all n0 eb3 he7 t8 he14 eb17 he21 t22 eb27 t28 he32 eb38 t39 eb45 t46 he51
theorem v_X6_total_12_1 {F : Nat → Nat → Nat} (a : Nat) (G : XG)
    (hro : RO (vw (G.2.1 (F a 0))) (aI (G.2.1 (F a 1)))) :
    RO (vw (G.2.1 (F a 0))) (aI (G.2.1 (F a 1))) := by
  exact hro
theorem v_X10_begin_23_1 {F : Nat → Nat → Nat} (a : Nat) (G12 : XG) (G : XG)
    (ron : RO (vw (G.2.1 (F (F a 3) 0))) (aI (G.2.1 (F (F a 3) 1))))
    (rob : RO (vw (G.2.1 (F (F a 4) 0))) (aI (G.2.1 (F (F a 4) 1))))
    (c_G12_F_F_a_3_0 : G12.2.1 (F (F a 3) 0) = G.2.1 (F (F a 3) 0))
    (c_G12_F_F_a_3_1 : G12.2.1 (F (F a 3) 1) = G.2.1 (F (F a 3) 1)) :
    RO (vw (G12.2.1 (F (F a 3) 0))) (aI (G12.2.1 (F (F a 3) 1))) := by simp only [c_G12_F_F_a_3_0, c_G12_F_F_a_3_1]; assumption
theorem v_X10_begin_51_2 {F : Nat → Nat → Nat} (a : Nat) (G : XG) (G_28 : XG)
    (ron : RO (vw (G.2.1 (F (F a 3) 0))) (aI (G.2.1 (F (F a 3) 1))))
    (c_G_28_F_F_a_3_0 : G_28.2.1 (F (F a 3) 0) = G.2.1 (F (F a 3) 0))
    (c_G_28_F_F_a_3_1 : G_28.2.1 (F (F a 3) 1) = G.2.1 (F (F a 3) 1)) :
    RO (vw (G_28.2.1 (F (F a 3) 0))) (aI (G_28.2.1 (F (F a 3) 1))) := by
  first | exact ron | (rw [c_G_28_F_F_a_3_0, c_G_28_F_F_a_3_1]; exact ron) | (simp only [c_G_28_F_F_a_3_0, c_G_28_F_F_a_3_1]; exact ron)
theorem v_X10_begin_54_3 {K : Nat → Nat} {F : Nat → Nat → Nat} (a : Nat) (G : XG) (G23 : XG) (G_28 : XG) (l1_28 : Int32) (N28 : Nat) (x51 : Int32)
    (ha : K a = 12)
    (oq23 : (vw (G23.2.1 (F (F a 4) 0))) = (vw (G.2.1 (F (F a 3) 0))))
    (f22 : ((G.1 a 18).toInt) = 0 ∨ ((G.1 a 18).toInt) = 1)
    (c4 : ((G.1 a 18).toInt) = 0)
    (I28_0 : (0 : Int) ≤ l1_28.toInt)
    (hm28 : 2147483648 - l1_28.toInt < (((N28) + 1 : Nat) : Int))
    (c31 : (6 : Int) ≤ l1_28.toInt)
    (t51 : x51.toInt = (toB (aI (G.2.1 (F (F a 3) 1))) 3) ∧ (0 ≤ x51.toInt ∧ x51.toInt ≤ 90))
    (c_G_28_F_F_a_4_0 : G_28.2.1 (F (F a 4) 0) = G23.2.1 (F (F a 4) 0)) :
    (((G.1 a 18).toInt) ≠ 0 ∧ (vw (G_28.2.1 (F (F a 4) 0))) = (vw (G.2.1 (F (F a 4) 0)))) ∨ (((G.1 a 18).toInt) = 0 ∧ (vw (G_28.2.1 (F (F a 4) 0))) = (vw (G.2.1 (F (F a 3) 0)))) := by
  exact Or.inr ⟨by omega, by rw [c_G_28_F_F_a_4_0]; exact oq23⟩
theorem v_X10_begin_54_4 {F : Nat → Nat → Nat} (a : Nat) (G23 : XG) (G_28 : XG)
    (oq23a : RO (vw (G23.2.1 (F (F a 4) 0))) (aI (G23.2.1 (F (F a 4) 1))))
    (c_G_28_F_F_a_4_0 : G_28.2.1 (F (F a 4) 0) = G23.2.1 (F (F a 4) 0))
    (c_G_28_F_F_a_4_1 : G_28.2.1 (F (F a 4) 1) = G23.2.1 (F (F a 4) 1)) :
    RO (vw (G_28.2.1 (F (F a 4) 0))) (aI (G_28.2.1 (F (F a 4) 1))) := by
  rw [c_G_28_F_F_a_4_0, c_G_28_F_F_a_4_1]; exact oq23a
theorem v_X10_begin_9_5 {K : Nat → Nat} {F : Nat → Nat → Nat} (a : Nat) (G : XG)
    (ha : K a = 12)
    (f17 : ((G.1 a 18).toInt) = 0 ∨ ((G.1 a 18).toInt) = 1)
    (c4 : ¬ (((G.1 a 18).toInt) = 0)) :
    (((G.1 a 18).toInt) ≠ 0 ∧ (vw (G.2.1 (F (F a 4) 0))) = (vw (G.2.1 (F (F a 4) 0)))) ∨ (((G.1 a 18).toInt) = 0 ∧ (vw (G.2.1 (F (F a 4) 0))) = (vw (G.2.1 (F (F a 3) 0)))) := by
  exact Or.inl ⟨by omega, rfl⟩
theorem v_X10_begin_9_6 {F : Nat → Nat → Nat} (a : Nat) (G : XG)
    (rob : RO (vw (G.2.1 (F (F a 4) 0))) (aI (G.2.1 (F (F a 4) 1)))) :
    RO (vw (G.2.1 (F (F a 4) 0))) (aI (G.2.1 (F (F a 4) 1))) := by
  exact rob
abbrev rm_J6_bitCount_0f7a4 : Room := { frames := 0, cells := 0, slots := 0, locals := 0 }
set_option maxHeartbeats 4000000 in
set_option maxRecDepth 100000 in
theorem c_J6_bitCount_0f7a4 (l : Launch) (E : XE) (K : Nat → Nat) (F : Nat → Nat → Nat) (G : XG) (h0 : Heap) (p0 : Int32) (n0 : 0 ≤ p0.toInt) : Met l yJ6_bitCount_0f7a4 (xw yJ6_bitCount_0f7a4 cJ6_bitCount_0f7a4 1 (some .int)) rm_J6_bitCount_0f7a4 (va_Pc [.int p0] (XPh E K F G h0)) (XQ E (fun v (u : Unit) => ∃ r : Int32, v = .int r ∧ (r.toInt = ((p32 (p0.toInt).toNat : Nat) : Int))) (fun _ H => H = h0)) 0 0 (xA E) := by
  refine x_enter (by decide) (Nat.le_of_ble_eq_true rfl) ?_
  intro p e s m args below meth c Q S hr hlk hnm hQ hP ls hl
  obtain ⟨⟨hz, hK, hT⟩, hh⟩ := hP
  obtain ⟨hx, hb, -, -, -⟩ := id S
  have hS : va_S (xA E) s.heap s.heap [] := va_S.rf
  have hl : lv_has ls 1 [(0, .int p0)] := hl
  refine lv_iload_n hx hb dJ6_bitCount_0f7a4_0 rfl (lv_at hl 0 rfl) ?_
  refine lv_iload_n hx hb dJ6_bitCount_0f7a4_1 rfl (lv_at hl 0 rfl) ?_
  refine lv_iconst (v := 1) hx hb dJ6_bitCount_0f7a4_2 (by decide) ?_
  refine lv_iushr hx hb dJ6_bitCount_0f7a4_3 rfl (lv_topi (fun x3 eb3 => ?_))
  refine lv_ldcw (v := 1431655765) hx hb S.2.2.2.1 (S.2.2.2.2 _ (List.mem_cons_of_mem _ kc_J6_265)) dJ6_bitCount_0f7a4_4 ?_
  refine lv_iand hx hb dJ6_bitCount_0f7a4_7 (lv_topi (fun x7 he7 => ?_))
  refine xi_isub hx hb (rfl : Int32.toInt p0 = p0.toInt) (rfl : Int32.toInt x7 = x7.toInt) dJ6_bitCount_0f7a4_8 (fun x8 t8 => ?_)
  refine lv_istore_n (lv' := [(0, .int x8)]) hx hb dJ6_bitCount_0f7a4_9 rfl hl (by decide) rfl (fun ls hl => ?_)
  refine lv_iload_n hx hb dJ6_bitCount_0f7a4_10 rfl (lv_at hl 0 rfl) ?_
  refine lv_ldcw (v := 858993459) hx hb S.2.2.2.1 (S.2.2.2.2 _ (List.mem_cons_of_mem _ kc_J6_266)) dJ6_bitCount_0f7a4_11 ?_
  refine lv_iand hx hb dJ6_bitCount_0f7a4_14 (lv_topi (fun x14 he14 => ?_))
  refine lv_iload_n hx hb dJ6_bitCount_0f7a4_15 rfl (lv_at hl 0 rfl) ?_
  refine lv_iconst (v := 2) hx hb dJ6_bitCount_0f7a4_16 (by decide) ?_
  refine lv_iushr hx hb dJ6_bitCount_0f7a4_17 rfl (lv_topi (fun x17 eb17 => ?_))
  refine lv_ldcw (v := 858993459) hx hb S.2.2.2.1 (S.2.2.2.2 _ (List.mem_cons_of_mem _ kc_J6_266)) dJ6_bitCount_0f7a4_18 ?_
  refine lv_iand hx hb dJ6_bitCount_0f7a4_21 (lv_topi (fun x21 he21 => ?_))
  refine xi_iadd hx hb (rfl : Int32.toInt x14 = x14.toInt) (rfl : Int32.toInt x21 = x21.toInt) dJ6_bitCount_0f7a4_22 (fun x22 t22 => ?_)
  refine lv_istore_n (lv' := [(0, .int x22)]) hx hb dJ6_bitCount_0f7a4_23 rfl hl (by decide) rfl (fun ls hl => ?_)
  refine lv_iload_n hx hb dJ6_bitCount_0f7a4_24 rfl (lv_at hl 0 rfl) ?_
  refine lv_iload_n hx hb dJ6_bitCount_0f7a4_25 rfl (lv_at hl 0 rfl) ?_
  refine lv_iconst (v := 4) hx hb dJ6_bitCount_0f7a4_26 (by decide) ?_
  refine lv_iushr hx hb dJ6_bitCount_0f7a4_27 rfl (lv_topi (fun x27 eb27 => ?_))
  refine xi_iadd hx hb (rfl : Int32.toInt x22 = x22.toInt) (rfl : Int32.toInt x27 = x27.toInt) dJ6_bitCount_0f7a4_28 (fun x28 t28 => ?_)
  refine lv_ldcw (v := 252645135) hx hb S.2.2.2.1 (S.2.2.2.2 _ (List.mem_cons_of_mem _ kc_J6_267)) dJ6_bitCount_0f7a4_29 ?_
  refine lv_iand hx hb dJ6_bitCount_0f7a4_32 (lv_topi (fun x32 he32 => ?_))
  refine lv_istore_n (lv' := [(0, .int x32)]) hx hb dJ6_bitCount_0f7a4_33 rfl hl (by decide) rfl (fun ls hl => ?_)
  refine lv_iload_n hx hb dJ6_bitCount_0f7a4_34 rfl (lv_at hl 0 rfl) ?_
  refine lv_iload_n hx hb dJ6_bitCount_0f7a4_35 rfl (lv_at hl 0 rfl) ?_
  refine lv_bipush (v := 8) hx hb dJ6_bitCount_0f7a4_36 (by decide) ?_
  refine lv_iushr hx hb dJ6_bitCount_0f7a4_38 rfl (lv_topi (fun x38 eb38 => ?_))
  refine xi_iadd hx hb (rfl : Int32.toInt x32 = x32.toInt) (rfl : Int32.toInt x38 = x38.toInt) dJ6_bitCount_0f7a4_39 (fun x39 t39 => ?_)
  refine lv_istore_n (lv' := [(0, .int x39)]) hx hb dJ6_bitCount_0f7a4_40 rfl hl (by decide) rfl (fun ls hl => ?_)
  refine lv_iload_n hx hb dJ6_bitCount_0f7a4_41 rfl (lv_at hl 0 rfl) ?_
  refine lv_iload_n hx hb dJ6_bitCount_0f7a4_42 rfl (lv_at hl 0 rfl) ?_
  refine lv_bipush (v := 16) hx hb dJ6_bitCount_0f7a4_43 (by decide) ?_
  refine lv_iushr hx hb dJ6_bitCount_0f7a4_45 rfl (lv_topi (fun x45 eb45 => ?_))
  refine xi_iadd hx hb (rfl : Int32.toInt x39 = x39.toInt) (rfl : Int32.toInt x45 = x45.toInt) dJ6_bitCount_0f7a4_46 (fun x46 t46 => ?_)
  refine lv_istore_n (lv' := [(0, .int x46)]) hx hb dJ6_bitCount_0f7a4_47 rfl hl (by decide) rfl (fun ls hl => ?_)
  refine lv_iload_n hx hb dJ6_bitCount_0f7a4_48 rfl (lv_at hl 0 rfl) ?_
  refine lv_bipush (v := 63) hx hb dJ6_bitCount_0f7a4_49 (by decide) ?_
  refine lv_iand hx hb dJ6_bitCount_0f7a4_51 (lv_topi (fun x51 he51 => ?_))
  exact x_ri hx hb hr hlk hQ (Nat.le_of_ble_eq_true rfl) (Nat.le_of_ble_eq_true rfl) hS dJ6_bitCount_0f7a4_52 () ⟨_, rfl, (v_J6_bitCount_0f7a4_52_1 x3 p0 x7 x14 x8 x17 x21 x27 x22 x32 x28 x38 x45 x39 x51 x46 eb3 he7 he14 eb17 he21 eb27 he32 eb38 eb45 he51 n0 t8 t22 t28 t39 t46)⟩ hh

theorem z_X6_size_2 (a0 : Int) (a1 : Int) (a2 : Int) (h0 : ((0 ≤ a0 ∧ a0 < 3) ∧ a1 = a2) ∨ (¬ (0 ≤ a0 ∧ a0 < 3) ∧ a1 = 0)) (h1 : 0 ≤ a1 ∧ a1 ≤ 30) : (((0 ≤ a0 ∧ a0 < 3) ∧ a1 = a2) ∨ (¬ (0 ≤ a0 ∧ a0 < 3) ∧ a1 = 0)) ∧ (0 ≤ a1 ∧ a1 ≤ 30) := by omega
abbrev rm_X6_size : Room := { frames := 2, cells := 0, slots := 0, locals := 41 }
set_option maxHeartbeats 4000000 in
set_option maxRecDepth 100000 in
theorem c_X6_size (l : Launch) (E : XE) (K : Nat → Nat) (F : Nat → Nat → Nat) (G : XG) (h0 : Heap) (a : Nat) (p0 : Int32) (ha : K a = 8) (hro : RO (vw (G.2.1 (F a 0))) (aI (G.2.1 (F a 1)))) : Met l yX6_size (xw yX6_size cX6_size 2 (some .int)) rm_X6_size (va_Pc [.ref a, .int p0] (XPh E K F G h0)) (XQ E (fun v (u : Unit) => ∃ r : Int32, v = .int r ∧ ((((0 ≤ p0.toInt ∧ p0.toInt < 3) ∧ r.toInt = (szB (aI (G.2.1 (F a 1))) (p0.toInt))) ∨ (¬ (0 ≤ p0.toInt ∧ p0.toInt < 3) ∧ r.toInt = 0)) ∧ (0 ≤ r.toInt ∧ r.toInt ≤ 30))) (fun _ H => H = h0)) 0 0 (xA E) := by
  refine x_enter (by decide) (Nat.le_of_ble_eq_true rfl) ?_
  intro p e s m args below meth c Q S hr hlk hnm hQ hP ls hl
  obtain ⟨⟨hz, hK, hT⟩, hh⟩ := hP
  obtain ⟨hx, hb, -, -, -⟩ := id S
  have hS : va_S (xA E) s.heap s.heap [] := va_S.rf
  have hl : lv_has ls 2 [(0, .ref a), (1, .int p0)] := hl
  obtain ⟨hk9999, hj9999⟩ := fkX6_0 hT ha
  obtain ⟨hk9999a, hj9999a⟩ := fkX6_1 hT ha
  refine lv_aload_n hx hb dX6_size_0 rfl (lv_at hl 0 rfl) ?_
  refine lv_iload_n hx hb dX6_size_1 rfl (lv_at hl 1 rfl) ?_
  refine x_clp (x_runV (b := a) (As := [.int p0]) (rest := []) S (c_X6_keyBits l E K F G s.heap a p0 ha) mv_X6_keyBits km_X6_38 rfl rfl ⟨Nat.le_of_ble_eq_true rfl, Nat.le_of_ble_eq_true rfl⟩ (rc_8 hK hT ha) hK (fun _ => XPh.blind) (fun U hU hW => XPh.at hK hz hS hT hU hW) rfl hl.1 (Nat.le_of_ble_eq_true rfl) dX6_size_2 ⟨Nat.le_of_ble_eq_true rfl, Nat.le_of_ble_eq_true rfl⟩) hS ?_
  rintro _ _ locs ⟨x2, rfl, t2⟩ hS
  have t2 : (0 ≤ p0.toInt ∧ p0.toInt < 3 ∧ x2.toInt = (aI (G.2.1 (F a 1)) (p0.toInt))) ∨ ((p0.toInt < 0 ∨ 3 ≤ p0.toInt) ∧ x2.toInt = 0) := t2
  have z5 : 0 ≤ x2.toInt := sz_p (z := G.2.1 (F a 1) (p0.toInt).toNat) hro rfl t2
  refine x_clp (x_runS (As := [.int x2]) (rest := []) S (c_J6_bitCount_0f7a4 l E K F G s.heap x2 (z5)) ms_J6_bitCount_0f7a4 km_X6_42 rfl rfl ⟨Nat.le_of_ble_eq_true rfl, Nat.le_of_ble_eq_true rfl⟩ hK (fun _ => XPh.blind) (fun U hU hW => XPh.at hK hz hS hT hU hW) rfl hl.1 (Nat.le_of_ble_eq_true rfl) dX6_size_5 ⟨Nat.le_of_ble_eq_true rfl, Nat.le_of_ble_eq_true rfl⟩) hS ?_
  rintro _ _ locs ⟨x5, rfl, oq5⟩ hS
  have z8 : ((0 ≤ p0.toInt ∧ p0.toInt < 3) ∧ x5.toInt = (szB (aI (G.2.1 (F a 1))) (p0.toInt))) ∨ (¬ (0 ≤ p0.toInt ∧ p0.toInt < 3) ∧ x5.toInt = 0) := (sz_bd (z := G.2.1 (F a 1) (p0.toInt).toNat) hro rfl t2 oq5).1
  have z8a : 0 ≤ x5.toInt ∧ x5.toInt ≤ 30 := (sz_bd (z := G.2.1 (F a 1) (p0.toInt).toNat) hro rfl t2 oq5).2
  exact x_ri hx hb hr hlk hQ (Nat.le_of_ble_eq_true rfl) (Nat.le_of_ble_eq_true rfl) hS dX6_size_8 () ⟨_, rfl, (z_X6_size_2 p0.toInt x5.toInt (szB (aI (G.2.1 (F a 1))) (p0.toInt)) z8 z8a)⟩ hh

theorem z_X6_total_1 (a0 : Int) (h0 : 0 ≤ a0 ∧ a0 ≤ 3) : ¬ (100 - a0 < ((0 : Nat) : Int)) := by omega
theorem z_X6_total_2 (a0 : Int) (a1 : Int) (a2 : Int) (a3 : Int) (h0 : 0 ≤ a1 ∧ a1 ≤ 3) (h1 : a0 = a2) (h2 : 0 ≤ a0 ∧ a0 ≤ 30 * a1) (h3 : (3 : Int) ≤ a1) (h4 : a1 = 3 → a2 = a3) : a0 = a3 ∧ (0 ≤ a0 ∧ a0 ≤ 90) := by omega
theorem z_X6_total_3 (a0 : Int) (h0 : 0 ≤ a0 ∧ a0 ≤ 3) : 0 ≤ a0 := by omega
theorem z_X6_total_4 (a0 : Int) (a1 : Int) (h0 : 0 ≤ a0 ∧ a0 ≤ 3) (h1 : a1 = (a0 + 1) ∨ (a0 + 1) < -2147483648 ∨ 2147483648 ≤ (a0 + 1)) : a1 = (a0 + 1) := by omega
theorem z_X6_total_5 (a0 : Int) (h0 : 0 ≤ a0 ∧ a0 ≤ 3) (h1 : ¬ ((3 : Int) ≤ a0)) : 0 ≤ (a0 + 1) ∧ (a0 + 1) ≤ 3 := by omega
theorem z_X6_total_6 (a0 : Int) (a1 : Int) (a2 : Int) (a3 : Int) (a4 : Int) (a5 : Int) (a6 : Int) (h0 : a0 = a6) (h1 : 0 ≤ a0 ∧ a0 ≤ 30 * a1) (h2 : ¬ ((3 : Int) ≤ a1)) (h3 : a5 = a6 + a4) (h4 : ((0 ≤ a1 ∧ a1 < 3) ∧ a2 = a4) ∨ (¬ (0 ≤ a1 ∧ a1 < 3) ∧ a2 = 0)) (h5 : 0 ≤ a2 ∧ a2 ≤ 30) (h6 : a3 = a0 + a2 ∨ a0 + a2 < -2147483648 ∨ 2147483648 ≤ a0 + a2) : a3 = a5 := by omega
theorem z_X6_total_7 (a0 : Int) (a1 : Int) (a2 : Int) (a3 : Int) (h0 : 0 ≤ a0 ∧ a0 ≤ 30 * a1) (h1 : ¬ ((3 : Int) ≤ a1)) (h2 : 0 ≤ a2 ∧ a2 ≤ 30) (h3 : a3 = a0 + a2 ∨ a0 + a2 < -2147483648 ∨ 2147483648 ≤ a0 + a2) : 0 ≤ a3 ∧ a3 ≤ 30 * (a1 + 1) := by omega
theorem z_X6_total_8 (a0 : Int) (a1 : Nat) (h0 : 100 - a0 < ((a1 + 1 : Nat) : Int)) : 100 - (a0 + 1) < ((a1 : Nat) : Int) := by omega
theorem z_X6_total_9 (a0 : Int) (h0 : a0 = 0) : (0 : Int) = a0 := by omega
abbrev rm_X6_total : Room := { frames := 3, cells := 0, slots := 0, locals := 62 }
set_option maxHeartbeats 4000000 in
set_option maxRecDepth 100000 in
theorem c_X6_total (l : Launch) (E : XE) (K : Nat → Nat) (F : Nat → Nat → Nat) (G : XG) (h0 : Heap) (a : Nat) (ha : K a = 8) (hro : RO (vw (G.2.1 (F a 0))) (aI (G.2.1 (F a 1)))) : Met l yX6_total (xw yX6_total cX6_total 3 (some .int)) rm_X6_total (va_Pc [.ref a] (XPh E K F G h0)) (XQ E (fun v (u : Unit) => ∃ r : Int32, v = .int r ∧ (r.toInt = (toB (aI (G.2.1 (F a 1))) 3) ∧ (0 ≤ r.toInt ∧ r.toInt ≤ 90))) (fun _ H => H = h0)) 0 0 (xA E) := by
  refine x_enter (by decide) (Nat.le_of_ble_eq_true rfl) ?_
  intro p e s m args below meth c Q S hr hlk hnm hQ hP ls hl
  obtain ⟨⟨hz, hK, hT⟩, hh⟩ := hP
  obtain ⟨hx, hb, -, -, -⟩ := id S
  have hS : va_S (xA E) s.heap s.heap [] := va_S.rf
  have hl : lv_has ls 3 [(0, .ref a)] := hl
  obtain ⟨hk9999, hj9999⟩ := fkX6_0 hT ha
  obtain ⟨hk9999a, hj9999a⟩ := fkX6_1 hT ha
  have z0 : (toB (aI (G.2.1 (F a 1))) 0) = 0 := toB_0 _
  refine lv_iconst (v := 0) hx hb dX6_total_0 (by decide) ?_
  refine lv_istore_n (lv' := [(1, .int 0), (0, .ref a)]) hx hb dX6_total_1 rfl hl (by decide) rfl (fun ls hl => ?_)
  refine lv_iconst (v := 0) hx hb dX6_total_2 (by decide) ?_
  refine lv_istore_n (lv' := [(2, .int 0), (1, .int 0), (0, .ref a)]) hx hb dX6_total_3 rfl hl (by decide) rfl (fun ls hl => ?_)
  have L4 : ∀ (N4 : Nat) (l1_4 : Int32) (l2_4 : Int32) (locs : List Loc) (ls : Array Slot), 0 ≤ l2_4.toInt ∧ l2_4.toInt ≤ 3 → l1_4.toInt = (toB (aI (G.2.1 (F a 1))) (l2_4.toInt)) → 0 ≤ l1_4.toInt ∧ l1_4.toInt ≤ 30 * l2_4.toInt → 100 - l2_4.toInt < ((N4 : Nat) : Int) → TW E K F G s.heap → va_S (xA E) s.heap s.heap locs → lv_has ls 3 [(0, .ref a), (1, .int l1_4), (2, .int l2_4)] → W p l e rm_X6_total s m args below meth c s.heap locs 0 0 Q (F0 m 4 ls []) := by
    intro N4
    induction N4 with
    | zero =>
      intro l1_4 l2_4 locs ls I4_0 I4_1 I4_2 hm4
      exact absurd hm4 (z_X6_total_1 l2_4.toInt I4_0)
    | succ N4 ih4 =>
      intro l1_4 l2_4 locs ls I4_0 I4_1 I4_2 hm4 hT hS hl
      refine lv_iload_n hx hb dX6_total_4 rfl (lv_at hl 2 rfl) ?_
      refine lv_iconst (v := 3) hx hb dX6_total_5 (by decide) ?_
      refine xi_cge (tgt := 23) hx hb (rfl : Int32.toInt l2_4 = l2_4.toInt) ((by decide) : Int32.toInt 3 = (3 : Int)) dX6_total_6 (by decide) (fun c6 => ?_) (fun c6 => ?_)
      · have z23 : l2_4.toInt = 3 → (toB (aI (G.2.1 (F a 1))) (l2_4.toInt)) = (toB (aI (G.2.1 (F a 1))) 3) := fun h9 => by rw [h9]
        refine lv_iload_n hx hb dX6_total_23 rfl (lv_at hl 1 rfl) ?_
        exact x_ri hx hb hr hlk hQ (Nat.le_of_ble_eq_true rfl) (Nat.le_of_ble_eq_true rfl) hS dX6_total_24 () ⟨_, rfl, (z_X6_total_2 l1_4.toInt l2_4.toInt (toB (aI (G.2.1 (F a 1))) (l2_4.toInt)) (toB (aI (G.2.1 (F a 1))) 3) I4_0 I4_1 I4_2 c6 z23)⟩ hh
      · have z9 : (toB (aI (G.2.1 (F a 1))) (l2_4.toInt + 1)) = (toB (aI (G.2.1 (F a 1))) (l2_4.toInt)) + (szB (aI (G.2.1 (F a 1))) (l2_4.toInt)) := toB_s _ (z_X6_total_3 l2_4.toInt I4_0)
        refine lv_iload_n hx hb dX6_total_9 rfl (lv_at hl 1 rfl) ?_
        refine lv_aload_n hx hb dX6_total_10 rfl (lv_at hl 0 rfl) ?_
        refine lv_iload_n hx hb dX6_total_11 rfl (lv_at hl 2 rfl) ?_
        refine x_clp (x_runV (b := a) (As := [.int l2_4]) (rest := [.int l1_4]) S (c_X6_size l E K F G s.heap a l2_4 ha (v_X6_total_12_1 (F := F) a G hro)) mv_X6_size km_X6_47 rfl rfl ⟨Nat.le_of_ble_eq_true rfl, Nat.le_of_ble_eq_true rfl⟩ (rc_8 hK hT ha) hK (fun _ => XPh.blind) (fun U hU hW => XPh.at hK hz hS hT hU hW) rfl hl.1 (Nat.le_of_ble_eq_true rfl) dX6_total_12 ⟨Nat.le_of_ble_eq_true rfl, Nat.le_of_ble_eq_true rfl⟩) hS ?_
        rintro _ _ locs ⟨x12, rfl, t12⟩ hS
        have t12 : (((0 ≤ l2_4.toInt ∧ l2_4.toInt < 3) ∧ x12.toInt = (szB (aI (G.2.1 (F a 1))) (l2_4.toInt))) ∨ (¬ (0 ≤ l2_4.toInt ∧ l2_4.toInt < 3) ∧ x12.toInt = 0)) ∧ (0 ≤ x12.toInt ∧ x12.toInt ≤ 30) := t12
        refine xi_iadd hx hb (rfl : Int32.toInt l1_4 = l1_4.toInt) (rfl : Int32.toInt x12 = x12.toInt) dX6_total_15 (fun x15 t15 => ?_)
        refine lv_istore_n (lv' := [(1, .int x15), (0, .ref a), (2, .int l2_4)]) hx hb dX6_total_16 rfl hl (by decide) rfl (fun ls hl => ?_)
        refine xi_iinc (n := 1) (lv' := fun z9 => [(2, .int z9), (1, .int x15), (0, .ref a)]) (k := 2) hx hb (rfl : Int32.toInt l2_4 = l2_4.toInt) (by decide) dX6_total_17 hl rfl (by decide) (fun _ => rfl) (fun x17 ls t17 hl => ?_)
        have e17 : x17.toInt = (l2_4.toInt + 1) := (z_X6_total_4 l2_4.toInt x17.toInt I4_0 t17)
        have hl : lv_has ls 3 [(2, .int x17), (1, .int x15), (0, .ref a)] := hl
        refine lv_goto (tgt := 4) hx hb dX6_total_20 (by decide) ?_
        exact ih4 x15 x17 _ _ (by rw [(e17 : Int32.toInt x17 = (l2_4.toInt + 1))] <;> exact (z_X6_total_5 l2_4.toInt I4_0 c6)) (by rw [(e17 : Int32.toInt x17 = (l2_4.toInt + 1))] <;> exact (z_X6_total_6 l1_4.toInt l2_4.toInt x12.toInt x15.toInt (szB (aI (G.2.1 (F a 1))) (l2_4.toInt)) (toB (aI (G.2.1 (F a 1))) (l2_4.toInt + 1)) (toB (aI (G.2.1 (F a 1))) (l2_4.toInt)) I4_1 I4_2 c6 z9 (t12).1 (t12).2 t15)) (by rw [(e17 : Int32.toInt x17 = (l2_4.toInt + 1))] <;> exact (z_X6_total_7 l1_4.toInt l2_4.toInt x12.toInt x15.toInt I4_2 c6 (t12).2 t15)) (by rw [(e17 : Int32.toInt x17 = (l2_4.toInt + 1))] <;> exact (z_X6_total_8 l2_4.toInt N4 hm4)) hT hS (lv_sub hl [2, 1, 0] rfl)
  exact L4 4294967297 0 0 _ _ (by decide) (z_X6_total_9 (toB (aI (G.2.1 (F a 1))) 0) z0) (by decide) (by decide) hT hS (lv_sub hl [2, 1, 0] rfl)

theorem z_X10_begin_1 (a0 : Int) (h0 : -2147483648 ≤ a0 ∧ a0 < 2147483648) : ¬ (2147483648 - a0 < ((0 : Nat) : Int)) := by omega
theorem z_X10_begin_2 (a0 : Int) (a1 : Int) (a2 : Int) (h0 : a1 = 0) (h1 : a0 = a2 ∧ (0 ≤ a0 ∧ a0 ≤ 90)) : (a1 ≠ 0 ∧ a0 = -3 ∧ (1 : Int) = a1) ∨ (a1 = 0 ∧ (1 : Int) = 1 ∧ a0 = a2) := by omega
theorem z_X10_begin_3 (a0 : Int) (h0 : (0 : Int) ≤ a0) (h1 : ¬ ((6 : Int) ≤ a0)) : 0 ≤ a0 ∧ a0 < ((6 : Nat) : Int) := by omega
theorem z_X10_begin_4 (a0 : Int) (a1 : Int) (h0 : (0 : Int) ≤ a0) (h1 : ¬ ((6 : Int) ≤ a0)) (h2 : a1 = (a0 + 1) ∨ (a0 + 1) < -2147483648 ∨ 2147483648 ≤ (a0 + 1)) : a1 = (a0 + 1) := by omega
theorem z_X10_begin_5 (a0 : Int) (h0 : (0 : Int) ≤ a0) : (0 : Int) ≤ (a0 + 1) := by omega
theorem z_X10_begin_6 (a0 : Int) (a1 : Nat) (h0 : 2147483648 - a0 < ((a1 + 1 : Nat) : Int)) : 2147483648 - (a0 + 1) < ((a1 : Nat) : Int) := by omega
theorem z_X10_begin_7 (a0 : Int) (a1 : Int) (h0 : ¬ (a0 = 0)) : (a0 ≠ 0 ∧ (-3 : Int) = -3 ∧ a0 = a0) ∨ (a0 = 0 ∧ a0 = 1 ∧ (-3 : Int) = a1) := by omega
abbrev rm_X10_begin : Room := { frames := 4, cells := 0, slots := 0, locals := 84 }
set_option maxHeartbeats 4000000 in
set_option maxRecDepth 100000 in
theorem c_X10_begin (l : Launch) (E : XE) (K : Nat → Nat) (F : Nat → Nat → Nat) (G : XG) (a : Nat) (ha : K a = 12) (ron : RO (vw (G.2.1 (F (F a 3) 0))) (aI (G.2.1 (F (F a 3) 1)))) (rob : RO (vw (G.2.1 (F (F a 4) 0))) (aI (G.2.1 (F (F a 4) 1)))) : Met l yX10_begin (xw yX10_begin cX10_begin 2 (some .int)) rm_X10_begin (va_Pc [.ref a] (XP E K F G)) (XQ E (fun v (u : XG) => ∃ r : Int32, v = .int r ∧ XFr [(a, 18)] [F (F a 4) 0, F (F a 4) 1, F a 15] [] G u ∧ ((((G.1 a 18).toInt) ≠ 0 ∧ r.toInt = -3 ∧ ((u.1 a 18).toInt) = ((G.1 a 18).toInt)) ∨ (((G.1 a 18).toInt) = 0 ∧ ((u.1 a 18).toInt) = 1 ∧ r.toInt = (toB (aI (G.2.1 (F (F a 3) 1))) 3))) ∧ ((((G.1 a 18).toInt) ≠ 0 ∧ (vw (u.2.1 (F (F a 4) 0))) = (vw (G.2.1 (F (F a 4) 0)))) ∨ (((G.1 a 18).toInt) = 0 ∧ (vw (u.2.1 (F (F a 4) 0))) = (vw (G.2.1 (F (F a 3) 0))))) ∧ (RO (vw (u.2.1 (F (F a 4) 0))) (aI (u.2.1 (F (F a 4) 1))))) (fun u H => TW E K F u H)) 0 0 (xA E) := by
  refine x_enter (by decide) (Nat.le_of_ble_eq_true rfl) ?_
  intro p e s m args below meth c Q S hr hlk hnm hQ hP ls hl
  obtain ⟨hz, hK, hT⟩ := hP
  obtain ⟨hx, hb, -, -, -⟩ := id S
  obtain ⟨H, hT, hS, hgo⟩ : ∃ H : Heap, TW E K F G H ∧ va_S (xA E) s.heap H [] ∧ H = s.heap := ⟨_, hT, va_S.rf, rfl⟩
  rw [← hgo]
  have hl : lv_has ls 2 [(0, .ref a)] := hl
  obtain ⟨hk9999, hj9999⟩ := fkX10_4 hT ha
  obtain ⟨hk9999a, hj9999a⟩ := fkX6_0 hT hk9999
  have hj9999b : F (F (F a 4) 0) 99 = 1 := by rw [hj9999a, hj9999]
  obtain ⟨hk9999b, hj9999c⟩ := fkX6_1 hT hk9999
  have hj9999d : F (F (F a 4) 1) 99 = 1 := by rw [hj9999c, hj9999]
  obtain ⟨hk9999c, hj9999e⟩ := fkX10_15 hT ha
  obtain ⟨hk9999d, hj9999f⟩ := fkX10_3 hT ha
  obtain ⟨hk9999e, hj9999g⟩ := fkX6_0 hT hk9999d
  have hj9999h : F (F (F a 3) 0) 99 = 0 := by rw [hj9999g, hj9999f]
  obtain ⟨hk9999f, hj9999i⟩ := fkX6_1 hT hk9999d
  have hj9999j : F (F (F a 3) 1) 99 = 0 := by rw [hj9999i, hj9999f]
  refine lv_aload_n hx hb dX10_begin_0 rfl (lv_at hl 0 rfl) ?_
  refine gX10_18 S hK hT ha kf_X10_123 dX10_begin_1 (v := (G.1 a 18)) rfl (fun hz1 => ?_)
  refine xi_zeq (tgt := 10) hx hb (rfl : Int32.toInt (G.1 a 18) = ((G.1 a 18).toInt)) dX10_begin_4 (by decide) (fun c4 => ?_) (fun c4 => ?_)
  · refine lv_aload_n hx hb dX10_begin_10 rfl (lv_at hl 0 rfl) ?_
    refine lv_iconst (v := 1) hx hb dX10_begin_11 (by decide) ?_
    refine pX10_18 (v := 1) S hK hT hS ha kf_X10_123 (Or.inr rfl) dX10_begin_12 (fun H locs hT hS => ?_)
    obtain ⟨G12, hG12⟩ : ∃ GG : XG, GG = dput G a 18 1 := ⟨_, rfl⟩
    rw [← hG12] at hT
    refine lv_aload_n hx hb dX10_begin_15 rfl (lv_at hl 0 rfl) ?_
    refine gX10_4 S hK hT ha kf_X10_41 dX10_begin_16 (fun _ _ => ?_)
    refine lv_aload_n hx hb dX10_begin_19 rfl (lv_at hl 0 rfl) ?_
    refine gX10_3 S hK hT ha kf_X10_37 dX10_begin_20 (fun _ _ => ?_)
    refine x_cv0 (x_runV (b := (F a 4)) (As := [.ref (F a 3)]) (rest := []) S (c_X6_copy l E K F G12 (F a 4) (F a 3) hk9999 hk9999d (v_X10_begin_23_1 (F := F) a G12 G ron rob (ld_c hG12) (ld_c hG12))) mv_X6_copy km_X10_195 rfl rfl ⟨Nat.le_of_ble_eq_true rfl, Nat.le_of_ble_eq_true rfl⟩ (rc_8 hK hT hk9999) hK (fun _ => XP.blind) (fun U hU hW => XP.at hK hz hS hT hU hW) rfl hl.1 (Nat.le_of_ble_eq_true rfl) dX10_begin_23 ⟨Nat.le_of_ble_eq_true rfl, Nat.le_of_ble_eq_true rfl⟩) hS ?_
    rintro G23 H locs ⟨hF23, oq23, oq23a⟩ hT hS
    have oq23 : (vw (G23.2.1 (F (F a 4) 0))) = (vw (G.2.1 (F (F a 3) 0))) := by simp only [(show G12.2.1 (F (F a 3) 0) = G.2.1 (F (F a 3) 0) from (ld_c hG12))] at oq23; exact oq23
    refine lv_iconst (v := 0) hx hb dX10_begin_26 (by decide) ?_
    refine lv_istore_n (lv' := [(1, .int 0), (0, .ref a)]) hx hb dX10_begin_27 rfl hl (by decide) rfl (fun ls hl => ?_)
    have L28 : ∀ (N28 : Nat) (l1_28 : Int32) (G_28 : XG) (H : Heap) (locs : List Loc) (ls : Array Slot), XFr [] [F a 15] [] G23 G_28 → (0 : Int) ≤ l1_28.toInt → 2147483648 - l1_28.toInt < ((N28 : Nat) : Int) → TW E K F G_28 H → va_S (xA E) s.heap H locs → lv_has ls 2 [(0, .ref a), (1, .int l1_28)] → W p l e rm_X10_begin s m args below meth c H locs 0 0 Q (F0 m 28 ls []) := by
      intro N28
      induction N28 with
      | zero =>
        intro l1_28 G_28 H locs ls hF_28 I28_0 hm28
        exact absurd hm28 (z_X10_begin_1 l1_28.toInt (xr l1_28))
      | succ N28 ih28 =>
        intro l1_28 G_28 H locs ls hF_28 I28_0 hm28 hT hS hl
        refine lv_iload_n hx hb dX10_begin_28 rfl (lv_at hl 1 rfl) ?_
        refine lv_bipush (v := 6) hx hb dX10_begin_29 (by decide) ?_
        refine xi_cge (tgt := 47) hx hb (rfl : Int32.toInt l1_28 = l1_28.toInt) ((by decide) : Int32.toInt 6 = (6 : Int)) dX10_begin_31 (by decide) (fun c31 => ?_) (fun c31 => ?_)
        · refine lv_aload_n hx hb dX10_begin_47 rfl (lv_at hl 0 rfl) ?_
          refine gX10_3 S hK hT ha kf_X10_37 dX10_begin_48 (fun _ _ => ?_)
          refine x_clp (x_runV (b := (F a 3)) (As := []) (rest := []) S (c_X6_total l E K F G_28 H (F a 3) hk9999d (v_X10_begin_51_2 (F := F) a G G_28 ron ((hF_28.2.1 _ (xn1 (xne_k hk9999e hk9999c (by decide)) xn0)).trans ((hF23.2.1 _ (xn1 (xne_j hj9999h hj9999b (by first | decide | omega)) (xn1 (xne_k hk9999e hk9999b (by decide)) xn0))).trans (ld_c hG12))) ((hF_28.2.1 _ (xn1 (xne_k hk9999f hk9999c (by decide)) xn0)).trans ((hF23.2.1 _ (xn1 (xne_k hk9999f hk9999a (by decide)) (xn1 (xne_j hj9999j hj9999d (by first | decide | omega)) xn0))).trans (ld_c hG12))))) mv_X6_total km_X10_222 rfl rfl ⟨Nat.le_of_ble_eq_true rfl, Nat.le_of_ble_eq_true rfl⟩ (rc_8 hK hT hk9999d) hK (fun _ => XPh.blind) (fun U hU hW => XPh.at hK hz hS hT hU hW) rfl hl.1 (Nat.le_of_ble_eq_true rfl) dX10_begin_51 ⟨Nat.le_of_ble_eq_true rfl, Nat.le_of_ble_eq_true rfl⟩) hS ?_
          rintro _ _ locs ⟨x51, rfl, t51⟩ hS
          have t51 : x51.toInt = (toB (aI (G.2.1 (F (F a 3) 1))) 3) ∧ (0 ≤ x51.toInt ∧ x51.toInt ≤ 90) := by rw [(show G_28.2.1 (F (F a 3) 1) = G.2.1 (F (F a 3) 1) from ((hF_28.2.1 _ (xn1 (xne_k hk9999f hk9999c (by decide)) xn0)).trans ((hF23.2.1 _ (xn1 (xne_k hk9999f hk9999a (by decide)) (xn1 (xne_j hj9999j hj9999d (by first | decide | omega)) xn0))).trans (ld_c hG12))))] at t51; exact t51
          exact x_ri hx hb hr hlk hQ (Nat.le_of_ble_eq_true rfl) (Nat.le_of_ble_eq_true rfl) hS dX10_begin_54 G_28 ⟨_, rfl, (XFr.call (XFr.call (by rw [hG12]; exact XFr.dput XFr.rf (List.mem_of_getElem? (i := 0) rfl)) hF23 xm0 (xm1 0 rfl (xm1 1 rfl xm0)) xm0) hF_28 xm0 (xm1 2 rfl xm0) xm0), (by rw [(show (G_28.1 a 18).toInt = (1 : Int) from (congrArg Int32.toInt ((hF_28.1 _ _ xn0).trans ((hF23.1 _ _ xn0).trans (ld_at hG12)))).trans ((by decide) : Int32.toInt 1 = (1 : Int)))] <;> exact (z_X10_begin_2 x51.toInt ((G.1 a 18).toInt) (toB (aI (G.2.1 (F (F a 3) 1))) 3) c4 t51)), (v_X10_begin_54_3 (K := K) (F := F) a G G23 G_28 l1_28 N28 x51 ha oq23 (xzi hz1) c4 I28_0 hm28 c31 t51 (hF_28.2.1 _ (xn1 (xne_k hk9999a hk9999c (by decide)) xn0))), (v_X10_begin_54_4 (F := F) a G23 G_28 oq23a (hF_28.2.1 _ (xn1 (xne_k hk9999a hk9999c (by decide)) xn0)) (hF_28.2.1 _ (xn1 (xne_k hk9999b hk9999c (by decide)) xn0)))⟩ hT
        · refine lv_aload_n hx hb dX10_begin_34 rfl (lv_at hl 0 rfl) ?_
          refine gX10_15 S hK hT ha kf_X10_95 dX10_begin_35 (fun _ _ => ?_)
          refine lv_iload_n hx hb dX10_begin_38 rfl (lv_at hl 1 rfl) ?_
          refine lv_iconst (v := 0) hx hb dX10_begin_39 (by decide) ?_
          refine as_0 (x := 0) S hK hT hS hk9999c ar_26 aw_26 (by decide) (z_X10_begin_3 l1_28.toInt I28_0 c31) dX10_begin_40 (fun H locs hT hS => ?_)
          obtain ⟨G40, hG40⟩ : ∃ GG : XG, GG = cput G_28 (F a 15) l1_28.toNatClampNeg 0 := ⟨_, rfl⟩
          rw [← hG40] at hT
          refine xi_iinc (n := 1) (lv' := fun z9 => [(1, .int z9), (0, .ref a)]) (k := 1) hx hb (rfl : Int32.toInt l1_28 = l1_28.toInt) (by decide) dX10_begin_41 hl rfl (by decide) (fun _ => rfl) (fun x41 ls t41 hl => ?_)
          have e41 : x41.toInt = (l1_28.toInt + 1) := (z_X10_begin_4 l1_28.toInt x41.toInt I28_0 c31 t41)
          have hl : lv_has ls 2 [(1, .int x41), (0, .ref a)] := hl
          refine lv_goto (tgt := 28) hx hb dX10_begin_44 (by decide) ?_
          exact ih28 x41 G40 _ _ _ (by rw [hG40]; exact XFr.cput (XFr.call XFr.rf hF_28 xm0 (xm1 0 rfl xm0) xm0) (List.mem_of_getElem? (i := 0) rfl)) (by rw [(e41 : Int32.toInt x41 = (l1_28.toInt + 1))] <;> exact (z_X10_begin_5 l1_28.toInt I28_0)) (by rw [(e41 : Int32.toInt x41 = (l1_28.toInt + 1))] <;> exact (z_X10_begin_6 l1_28.toInt N28 hm28)) hT hS (lv_sub hl [1, 0] rfl)
    exact L28 4294967297 0 G23 _ _ _ XFr.rf (by decide) (by decide) hT hS (lv_sub hl [1, 0] rfl)
  · refine lv_bipush (v := (-3)) hx hb dX10_begin_7 (by decide) ?_
    exact x_ri hx hb hr hlk hQ (Nat.le_of_ble_eq_true rfl) (Nat.le_of_ble_eq_true rfl) hS dX10_begin_9 G ⟨_, rfl, XFr.rf, (by rw [((by decide) : Int32.toInt (-3) = (-3 : Int))] <;> exact (z_X10_begin_7 ((G.1 a 18).toInt) (toB (aI (G.2.1 (F (F a 3) 1))) 3) c4)), (v_X10_begin_9_5 (K := K) (F := F) a G ha (xzi hz1) c4), (v_X10_begin_9_6 (F := F) a G rob)⟩ hT
