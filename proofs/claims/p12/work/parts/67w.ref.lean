theorem z_X11_rule_2 (a0 : Int) (h0 : 0 ≤ a0 ∧ a0 ≤ 9) : ¬ (2147483648 - a0 < ((0 : Nat) : Int)) := by omega
theorem z_X11_rule_3 (a0 : Int) (h0 : 0 ≤ a0 ∧ a0 ≤ 12) (h1 : a0 ≠ (12 : Int)) : 0 ≤ a0 ∧ a0 ≤ 11 := by omega
theorem z_X11_rule_4 (a0 : Int) (h0 : -2147483648 ≤ a0 ∧ a0 < 2147483648) : ¬ (2147483648 - a0 < ((0 : Nat) : Int)) := by omega
theorem z_X11_rule_6 (a0 : Int) (a1 : Int) (a2 : Int) (h0 : a0 = -2147483648 ∧ a1 = -2147483648 ∧ a2 = 0) : (0 ≤ a2 ∧ a2 ≤ 24) := by omega
theorem z_X11_rule_8 (a0 : Int) (h0 : (0 ≤ a0 ∧ a0 ≤ 5)) : a0 ≠ -1 := by omega
theorem z_X11_rule_9 (a0 : Int) (a1 : Int) (a2 : Int) (h0 : a1 ≤ a0 ∧ a0 ≤ a2 + 1) (h1 : ¬ (a2 < a0)) : a1 ≤ a0 ∧ a0 ≤ a2 := by omega
theorem z_X11_rule_10 (a0 : Int) (a1 : Int) (a2 : Int) (a3 : Int) (a4 : Int) (h0 : ((a2 = 2 ∨ a2 = 4 ∨ a2 = 5) ∧ a3 = 0 ∧ a4 = 29) ∨ (¬ (a2 = 2 ∨ a2 = 4 ∨ a2 = 5) ∧ a3 = -99 ∧ a4 = 99)) (h1 : ¬ (a4 < a0)) (h2 : a1 = (a0 + 1) ∨ (a0 + 1) < -2147483648 ∨ 2147483648 ≤ (a0 + 1)) (h3 : -2147483648 ≤ a0 ∧ a0 < 2147483648) : a1 = (a0 + 1) := by omega
theorem z_X11_rule_11 (a0 : Int) (a1 : Int) (a2 : Int) (h0 : a1 ≤ a0 ∧ a0 ≤ a2 + 1) (h1 : ¬ (a2 < a0)) : a1 ≤ (a0 + 1) ∧ (a0 + 1) ≤ a2 + 1 := by omega
theorem z_X11_rule_12 (a0 : Int) (a1 : Nat) (h0 : 2147483648 - a0 < ((a1 + 1 : Nat) : Int)) : 2147483648 - (a0 + 1) < ((a1 : Nat) : Int) := by omega
theorem z_X11_rule_14 (a0 : Int) (a1 : Int) (a2 : Int) (a3 : Int) (h0 : ((a1 = 2 ∨ a1 = 4 ∨ a1 = 5) ∧ a2 = 0 ∧ a3 = 29) ∨ (¬ (a1 = 2 ∨ a1 = 4 ∨ a1 = 5) ∧ a2 = -99 ∧ a3 = 99)) (h1 : a2 ≤ a0 ∧ a0 ≤ a3 + 1) (h2 : ¬ (a3 < a0)) : -99 ≤ a0 ∧ a0 ≤ 99 := by omega
theorem z_X11_rule_15 (a0 : Int) (a1 : Int) (h0 : 0 ≤ a1 ∧ a1 ≤ 12) (h1 : a0 = ((10 : Int) * a1) ∨ ((10 : Int) * a1) < -2147483648 ∨ 2147483648 ≤ ((10 : Int) * a1)) : a0 = ((10 : Int) * a1) := by omega
theorem z_X11_rule_16 (a0 : Int) (h0 : 0 ≤ a0 ∧ a0 ≤ 12) (h1 : a0 ≠ (12 : Int)) : 0 ≤ ((10 : Int) * a0) ∧ ((10 : Int) * a0) < ((120 : Nat) : Int) := by omega
theorem z_X11_rule_17 (a0 : Int) (a1 : Int) (a2 : Int) (a3 : Int) (a4 : Int) (h0 : a2 = a1 ∧ a3 = a0 ∧ 0 ≤ a4 ∧ a4 ≤ 24) : (0 ≤ a4 ∧ a4 ≤ 24) := by omega
theorem z_X11_rule_18 (a0 : Int) (a1 : Int) (a2 : Int) (h0 : ((a0 = 2 ∨ a0 = 4 ∨ a0 = 5) ∧ a1 = 0 ∧ a2 = 29) ∨ (¬ (a0 = 2 ∨ a0 = 4 ∨ a0 = 5) ∧ a1 = -99 ∧ a2 = 99)) : a1 ≤ a1 ∧ a1 ≤ a2 + 1 := by omega
theorem z_X11_rule_19 (a0 : Int) (a1 : Int) (a2 : Int) (h0 : ((a0 = 2 ∨ a0 = 4 ∨ a0 = 5) ∧ a1 = 0 ∧ a2 = 29) ∨ (¬ (a0 = 2 ∨ a0 = 4 ∨ a0 = 5) ∧ a1 = -99 ∧ a2 = 99)) : 2147483648 - a1 < ((4294967297 : Nat) : Int) := by omega
theorem z_X11_rule_20 (a0 : Int) (a1 : Int) (h0 : 0 ≤ a0 ∧ a0 ≤ 12) (h1 : a1 = ((10 : Int) * a0) ∨ ((10 : Int) * a0) < -2147483648 ∨ 2147483648 ≤ ((10 : Int) * a0)) : a1 = ((10 : Int) * a0) := by omega
theorem z_X11_rule_21 (a0 : Int) (a1 : Int) (a2 : Int) (h0 : 0 ≤ a1 ∧ a1 ≤ 12) (h1 : 0 ≤ a0 ∧ a0 ≤ 9) (h2 : a2 = (((10 : Int) * a1) + a0) ∨ (((10 : Int) * a1) + a0) < -2147483648 ∨ 2147483648 ≤ (((10 : Int) * a1) + a0)) : a2 = (((10 : Int) * a1) + a0) := by omega
theorem z_X11_rule_22 (a0 : Int) (h0 : 0 ≤ a0 ∧ a0 ≤ 9) : 0 ≤ a0 ∧ a0 < ((10 : Nat) : Int) := by omega
theorem z_X11_rule_23 (a0 : Int) (a1 : Int) (h0 : 0 ≤ a1 ∧ a1 ≤ 12) (h1 : a1 ≠ (12 : Int)) (h2 : 0 ≤ a0 ∧ a0 ≤ 9) : 0 ≤ (((10 : Int) * a1) + a0) ∧ (((10 : Int) * a1) + a0) < ((120 : Nat) : Int) := by omega
theorem z_X11_rule_24 (a0 : Int) (a1 : Int) (h0 : 0 ≤ a0 ∧ a0 ≤ 9) (h1 : a1 = (a0 + 1) ∨ (a0 + 1) < -2147483648 ∨ 2147483648 ≤ (a0 + 1)) : a1 = (a0 + 1) := by omega
theorem z_X11_rule_25 (a0 : Int) (h0 : 0 ≤ a0 ∧ a0 ≤ 9) (h1 : ¬ ((9 : Int) ≤ a0)) : 0 ≤ (a0 + 1) ∧ (a0 + 1) ≤ 9 := by omega
theorem z_X11_rule_26 (a0 : Int) (h0 : 0 ≤ a0 ∧ a0 ≤ 9) : (0 : Int) ≤ (a0 + 1) := by omega
theorem z_X11_rule_30 (a0 : Int) (a1 : Int) (h0 : 0 ≤ a1 ∧ a1 ≤ 80) (h1 : a0 = ((-1000 : Int) - a1) ∨ ((-1000 : Int) - a1) < -2147483648 ∨ 2147483648 ≤ ((-1000 : Int) - a1)) : a0 = ((-1000 : Int) - a1) := by omega
abbrev rm_X11_rule : Room := { frames := 5, cells := 0, slots := 0, locals := 112 }
set_option maxHeartbeats 4000000 in
set_option maxRecDepth 100000 in
theorem c_X11_rule (l : Launch) (E : XE) (K : Nat → Nat) (F : Nat → Nat → Nat) (G : XG) (a : Nat) (ha : K a = 13) (nt0 : 0 ≤ ((G.1 a 36).toInt) ∧ ((G.1 a 36).toInt) ≤ 80) (hR : RV (G.2.1 (F a 10))) (hM : RM (G.2.1 (F a 1)) (0)) (hwo : WDo G F a) : Met l yX11_rule (xw yX11_rule cX11_rule 4 (some .int)) rm_X11_rule (va_Pc [.ref a] (XP E K F G)) (XQ E (fun v (u : XG) => ∃ r : Int32, v = .int r ∧ XFr [(a, 0), (a, 20), (a, 21), (a, 23), (a, 36), (a, 37), (a, 38), (a, 39)] [F a 40, F a 10, F a 22] [] G u ∧ ((0 ≤ ((u.1 a 23).toInt) ∧ ((u.1 a 23).toInt) ≤ 24)) ∧ (((u.1 a 36).toInt) = 0) ∧ ((¬ rOk (tM (G.2.1 (F a 35)) ((G.1 a 36).toInt)) ((G.1 a 36).toInt) ∧ r.toInt = -1000 - (rS9 (tM (G.2.1 (F a 35)) ((G.1 a 36).toInt))).2.2 ∧ u.2.1 (F a 10) = (G.2.1 (F a 10))) ∨ (rOk (tM (G.2.1 (F a 35)) ((G.1 a 36).toInt)) ((G.1 a 36).toInt) ∧ ((G.1 a 6).toInt) ≠ 0 ∧ r.toInt = -3 ∧ u.2.1 (F a 10) = (G.2.1 (F a 10))) ∨ (rOk (tM (G.2.1 (F a 35)) ((G.1 a 36).toInt)) ((G.1 a 36).toInt) ∧ ((G.1 a 6).toInt) = 0 ∧ (∀ i : Int, 0 ≤ i → i < 12 → aI (G.2.1 (F a 10)) (10 * i + 0) ≠ -1) ∧ r.toInt = -4 ∧ u.2.1 (F a 10) = (G.2.1 (F a 10))) ∨ (rOk (tM (G.2.1 (F a 35)) ((G.1 a 36).toInt)) ((G.1 a 36).toInt) ∧ ((G.1 a 6).toInt) = 0 ∧ ∃ (k : Int) (d g : Nat → Int32), ((0 ≤ k ∧ k ≤ 11) ∧ aI (G.2.1 (F a 10)) (10 * k + 0) = -1 ∧ ∀ i : Int, 0 ≤ i → i < k → aI (G.2.1 (F a 10)) (10 * i + 0) ≠ -1) ∧ DFo d (tM (G.2.1 (F a 35)) ((G.1 a 36).toInt)) ∧ CPd d (G.2.1 (F a 10)) g 0 (10 * k) 9 ∧ (((∃ s : Int, sbj (aI g (10 * k + 0)) s ∧ fzq g (mw (G.2.1 (F a 1)) 0) k s = 1) ∧ r.toInt = -5 ∧ ∀ z : Int, 0 ≤ z → aI (u.2.1 (F a 10)) z = if z = 10 * k then -1 else aI g z) ∨ ((∀ s : Int, sbj (aI g (10 * k + 0)) s → fzq g (mw (G.2.1 (F a 1)) 0) k s = 0) ∧ r.toInt = k ∧ u.2.1 (F a 10) = g)))) ∧ (RV (u.2.1 (F a 10)))) (fun u H => TW E K F u H)) 0 0 (xA E) := by
  refine x_enter (by decide) (Nat.le_of_ble_eq_true rfl) ?_
  intro p e s m args below meth c Q S hr hlk hnm hQ hP ls hl
  obtain ⟨hz, hK, hT⟩ := hP
  obtain ⟨hx, hb, -, -, -⟩ := id S
  obtain ⟨H, hT, hS, hgo⟩ : ∃ H : Heap, TW E K F G H ∧ va_S (xA E) s.heap H [] ∧ H = s.heap := ⟨_, hT, va_S.rf, rfl⟩
  rw [← hgo]
  have hl : lv_has ls 4 [(0, .ref a)] := hl
  obtain ⟨hk9999, hj9999⟩ := fkX11_40 hT ha
  obtain ⟨hk9999a, hj9999a⟩ := fkX11_10 hT ha
  obtain ⟨hk9999b, hj9999b⟩ := fkX11_22 hT ha
  obtain ⟨hk9999c, hj9999c⟩ := fkX11_35 hT ha
  obtain ⟨hk9999d, hj9999d⟩ := fkX11_25 hT ha
  obtain ⟨hk9999e, hj9999e⟩ := fkX11_26 hT ha
  obtain ⟨hk9999f, hj9999f⟩ := fkX11_27 hT ha
  obtain ⟨hk9999g, hj9999g⟩ := fkX11_28 hT ha
  obtain ⟨hk9999h, hj9999h⟩ := fkX11_29 hT ha
  obtain ⟨hk9999i, hj9999i⟩ := fkX11_30 hT ha
  obtain ⟨hk9999j, hj9999j⟩ := fkX11_1 hT ha
  refine lv_aload_n hx hb dX11_rule_0 rfl (lv_at hl 0 rfl) ?_
  refine lv_iconst (v := 0) hx hb dX11_rule_1 (by decide) ?_
  refine pX11_0 (v := 0) S hK hT hS ha kf_X11_134 dX11_rule_2 (fun H locs hT hS => ?_)
  obtain ⟨G2, hG2⟩ : ∃ GG : XG, GG = dput G a 0 0 := ⟨_, rfl⟩
  rw [← hG2] at hT
  refine lv_aload_n hx hb dX11_rule_5 rfl (lv_at hl 0 rfl) ?_
  refine x_cv0 (x_runV (b := a) (As := []) (rest := []) S (c_X11_nothing l E K F G2 a ha) mv_X11_nothing km_X11_231 rfl rfl ⟨Nat.le_of_ble_eq_true rfl, Nat.le_of_ble_eq_true rfl⟩ (rc_13 hK hT ha) hK (fun _ => XP.blind) (fun U hU hW => XP.at hK hz hS hT hU hW) rfl hl.1 (Nat.le_of_ble_eq_true rfl) dX11_rule_6 ⟨Nat.le_of_ble_eq_true rfl, Nat.le_of_ble_eq_true rfl⟩) hS ?_
  rintro G6 H locs ⟨hF6, t6⟩ hT hS
  have t6 : ((G6.1 a 20).toInt) = -2147483648 ∧ ((G6.1 a 21).toInt) = -2147483648 ∧ ((G6.1 a 23).toInt) = 0 := t6
  refine lv_aload_n hx hb dX11_rule_9 rfl (lv_at hl 0 rfl) ?_
  refine x_cl0 (x_runV (b := a) (As := []) (rest := []) S (c_X11_read l E K F G6 a ha (by rw [(show (G6.1 a 36).toInt = ((G.1 a 36).toInt) from (congrArg Int32.toInt ((hF6.1 _ _ (xnj (by decide) (xnj (by decide) (xnj (by decide) xn0)))).trans (ld_j hG2 (by decide)))).trans (rfl : Int32.toInt (G.1 a 36) = ((G.1 a 36).toInt)))] <;> exact (nt0)) (v_X11_rule_10_1 (F := F) G2 G a G6 hG2 hF6 hwo)) mv_X11_read km_X11_292 rfl rfl ⟨Nat.le_of_ble_eq_true rfl, Nat.le_of_ble_eq_true rfl⟩ (rc_13 hK hT ha) hK (fun _ => XP.blind) (fun U hU hW => XP.at hK hz hS hT hU hW) rfl hl.1 (Nat.le_of_ble_eq_true rfl) dX11_rule_10 ⟨Nat.le_of_ble_eq_true rfl, Nat.le_of_ble_eq_true rfl⟩) hS ?_
  rintro _ G10 H locs ⟨x10, rfl, b10, hF10, oq10, oq10a, oq10b⟩ hT hS
  have oq10 : (x10.toInt ≠ 0 ↔ rOk (tM (G.2.1 (F a 35)) ((G.1 a 36).toInt)) ((G.1 a 36).toInt)) := by simp only [(show G6.2.1 (F a 35) = G.2.1 (F a 35) from ((hF6.2.1 _ xn0).trans (ld_c hG2))), (show G6.1 a 36 = G.1 a 36 from ((hF6.1 _ _ (xnj (by decide) (xnj (by decide) (xnj (by decide) xn0)))).trans (ld_j hG2 (by decide))))] at oq10; exact oq10
  have oq10a : (¬ rOk (tM (G.2.1 (F a 35)) ((G.1 a 36).toInt)) ((G.1 a 36).toInt) → ((G10.1 a 38).toInt) = (rS9 (tM (G.2.1 (F a 35)) ((G.1 a 36).toInt))).2.2 ∧ 0 ≤ (rS9 (tM (G.2.1 (F a 35)) ((G.1 a 36).toInt))).2.2 ∧ (rS9 (tM (G.2.1 (F a 35)) ((G.1 a 36).toInt))).2.2 ≤ ((G.1 a 36).toInt)) := by simp only [(show G6.2.1 (F a 35) = G.2.1 (F a 35) from ((hF6.2.1 _ xn0).trans (ld_c hG2))), (show G6.1 a 36 = G.1 a 36 from ((hF6.1 _ _ (xnj (by decide) (xnj (by decide) (xnj (by decide) xn0)))).trans (ld_j hG2 (by decide))))] at oq10a; exact oq10a
  have oq10b : aI (G10.2.1 (F a 40)) 0 = (rS1 (tM (G.2.1 (F a 35)) ((G.1 a 36).toInt))).1 ∧ aI (G10.2.1 (F a 40)) 1 = (rS2 (tM (G.2.1 (F a 35)) ((G.1 a 36).toInt))).1 ∧ aI (G10.2.1 (F a 40)) 2 = (rS3 (tM (G.2.1 (F a 35)) ((G.1 a 36).toInt))).1 ∧ aI (G10.2.1 (F a 40)) 3 = (rS4 (tM (G.2.1 (F a 35)) ((G.1 a 36).toInt))).1 ∧ aI (G10.2.1 (F a 40)) 4 = (rS5 (tM (G.2.1 (F a 35)) ((G.1 a 36).toInt))).1 ∧ aI (G10.2.1 (F a 40)) 5 = (rS6 (tM (G.2.1 (F a 35)) ((G.1 a 36).toInt))).1 ∧ aI (G10.2.1 (F a 40)) 6 = (rS8 (tM (G.2.1 (F a 35)) ((G.1 a 36).toInt))).1 ∧ aI (G10.2.1 (F a 40)) 7 = (rS9 (tM (G.2.1 (F a 35)) ((G.1 a 36).toInt))).1 ∧ aI (G10.2.1 (F a 40)) 8 = (rS7 (tM (G.2.1 (F a 35)) ((G.1 a 36).toInt))).1 := by simp only [(show G6.2.1 (F a 35) = G.2.1 (F a 35) from ((hF6.2.1 _ xn0).trans (ld_c hG2))), (show G6.1 a 36 = G.1 a 36 from ((hF6.1 _ _ (xnj (by decide) (xnj (by decide) (xnj (by decide) xn0)))).trans (ld_j hG2 (by decide))))] at oq10b; exact oq10b
  have dfo10 : DFo (G10.2.1 (F a 40)) (tM (G.2.1 (F a 35)) ((G.1 a 36).toInt)) := oq10b
  refine lv_istore_n (lv' := [(1, .int x10), (0, .ref a)]) hx hb dX11_rule_13 rfl hl (by decide) rfl (fun ls hl => ?_)
  refine lv_aload_n hx hb dX11_rule_14 rfl (lv_at hl 1 rfl) ?_
  refine lv_iconst (v := 0) hx hb dX11_rule_15 (by decide) ?_
  refine pX11_36 (v := 0) S hK hT hS ha kf_X11_245 dX11_rule_16 (fun H locs hT hS => ?_)
  obtain ⟨G16, hG16⟩ : ∃ GG : XG, GG = dput G10 a 36 0 := ⟨_, rfl⟩
  rw [← hG16] at hT
  refine lv_iload_n hx hb dX11_rule_19 rfl (lv_at hl 0 rfl) ?_
  refine xi_zne (tgt := 32) hx hb (rfl : Int32.toInt x10 = x10.toInt) dX11_rule_20 (by decide) (fun c20 => ?_) (fun c20 => ?_)
  · refine lv_aload_n hx hb dX11_rule_32 rfl (lv_at hl 1 rfl) ?_
    refine gX11_6 S hK hT ha kf_X11_206 dX11_rule_33 (v := (G.1 a 6)) ((ld_j hG16 (by decide)).trans ((hF10.1 _ _ (xnj (by decide) (xnj (by decide) (xnj (by decide) xn0)))).trans ((hF6.1 _ _ (xnj (by decide) (xnj (by decide) (xnj (by decide) xn0)))).trans (ld_j hG2 (by decide))))) (fun hz33 => ?_)
    refine xi_zeq (tgt := 42) hx hb (rfl : Int32.toInt (G.1 a 6) = ((G.1 a 6).toInt)) dX11_rule_36 (by decide) (fun c36 => ?_) (fun c36 => ?_)
    · refine lv_aload_n hx hb dX11_rule_42 rfl (lv_at hl 1 rfl) ?_
      refine x_clp (x_runV (b := a) (As := []) (rest := []) S (c_X11_freeRule l E K F G16 H a ha) mv_X11_freeRule km_X11_296 rfl rfl ⟨Nat.le_of_ble_eq_true rfl, Nat.le_of_ble_eq_true rfl⟩ (rc_13 hK hT ha) hK (fun _ => XPh.blind) (fun U hU hW => XPh.at hK hz hS hT hU hW) rfl hl.1 (Nat.le_of_ble_eq_true rfl) dX11_rule_43 ⟨Nat.le_of_ble_eq_true rfl, Nat.le_of_ble_eq_true rfl⟩) hS ?_
      rintro _ _ locs ⟨x43, rfl, t43, oq43⟩ hS
      have t43 : 0 ≤ x43.toInt ∧ x43.toInt ≤ 12 := t43
      have oq43 : (x43.toInt = 12 ∨ aI (G.2.1 (F a 10)) (10 * x43.toInt + 0) = -1) ∧ ∀ i : Int, 0 ≤ i → i < x43.toInt → aI (G.2.1 (F a 10)) (10 * i + 0) ≠ -1 := by simp only [(show G16.2.1 (F a 10) = G.2.1 (F a 10) from ((ld_c hG16).trans ((hF10.2.1 _ (xn1 (xne_k hk9999a hk9999 (by decide)) xn0)).trans ((hF6.2.1 _ xn0).trans (ld_c hG2)))))] at oq43; exact oq43
      refine lv_istore_n (lv' := [(2, .int x43), (1, .int x10), (0, .ref a)]) hx hb dX11_rule_46 rfl hl (by decide) rfl (fun ls hl => ?_)
      refine lv_iload_n hx hb dX11_rule_47 rfl (lv_at hl 0 rfl) ?_
      refine lv_bipush (v := 12) hx hb dX11_rule_48 (by decide) ?_
      refine xi_cne (tgt := 56) hx hb (rfl : Int32.toInt x43 = x43.toInt) ((by decide) : Int32.toInt 12 = (12 : Int)) dX11_rule_50 (by decide) (fun c50 => ?_) (fun c50 => ?_)
      · refine lv_iconst (v := 0) hx hb dX11_rule_56 (by decide) ?_
        refine lv_istore_n (lv' := [(3, .int 0), (2, .int x43), (1, .int x10), (0, .ref a)]) hx hb dX11_rule_57 rfl hl (by decide) rfl (fun ls hl => ?_)
        have L58 : ∀ (N58 : Nat) (l3_58 : Int32) (G_58 : XG) (H : Heap) (locs : List Loc) (ls : Array Slot), XFr [] [F a 10] [] G16 G_58 → CPd (G10.2.1 (F a 40)) (G.2.1 (F a 10)) (G_58.2.1 (F a 10)) 0 (10 * x43.toInt) (l3_58.toInt) → 0 ≤ l3_58.toInt ∧ l3_58.toInt ≤ 9 → (0 : Int) ≤ l3_58.toInt → 2147483648 - l3_58.toInt < ((N58 : Nat) : Int) → TW E K F G_58 H → va_S (xA E) s.heap H locs → lv_has ls 4 [(0, .ref a), (2, .int x43), (3, .int l3_58)] → W p l e rm_X11_rule s m args below meth c H locs 0 0 Q (F0 m 58 ls []) := by
          intro N58
          induction N58 with
          | zero =>
            intro l3_58 G_58 H locs ls hF_58 cp I58_0 I58_1 hm58
            exact absurd hm58 (z_X11_rule_2 l3_58.toInt I58_0)
          | succ N58 ih58 =>
            intro l3_58 G_58 H locs ls hF_58 cp I58_0 I58_1 hm58 hT hS hl
            refine lv_iload_n hx hb dX11_rule_58 rfl (lv_at hl 2 rfl) ?_
            refine lv_bipush (v := 9) hx hb dX11_rule_59 (by decide) ?_
            refine xi_cge (tgt := 87) hx hb (rfl : Int32.toInt l3_58 = l3_58.toInt) ((by decide) : Int32.toInt 9 = (9 : Int)) dX11_rule_61 (by decide) (fun c61 => ?_) (fun c61 => ?_)
            · have cp87 : CPd (G10.2.1 (F a 40)) (G.2.1 (F a 10)) (G_58.2.1 (F a 10)) 0 (10 * x43.toInt) 9 := (v_X11_rule_87_2 (F := F) G10 a G G_58 x43 l3_58 cp I58_0 c61)
              have kd87 : (0 ≤ (aI (G_58.2.1 (F a 10)) (10 * x43.toInt + 0)) ∧ (aI (G_58.2.1 (F a 10)) (10 * x43.toInt + 0)) ≤ 5) := (v_X11_rule_87_3 (F := F) G10 a G x43 G_58 dfo10 oq43 cp87 t43 c50)
              have sf87 : (((aI (G_58.2.1 (F a 10)) (10 * x43.toInt + 0)) = 2 ∨ (aI (G_58.2.1 (F a 10)) (10 * x43.toInt + 0)) = 4 ∨ (aI (G_58.2.1 (F a 10)) (10 * x43.toInt + 0)) = 5) ∧ (sF (aI (G_58.2.1 (F a 10)) (10 * x43.toInt + 0))) = 0 ∧ (sL (aI (G_58.2.1 (F a 10)) (10 * x43.toInt + 0))) = 29) ∨ (¬ ((aI (G_58.2.1 (F a 10)) (10 * x43.toInt + 0)) = 2 ∨ (aI (G_58.2.1 (F a 10)) (10 * x43.toInt + 0)) = 4 ∨ (aI (G_58.2.1 (F a 10)) (10 * x43.toInt + 0)) = 5) ∧ (sF (aI (G_58.2.1 (F a 10)) (10 * x43.toInt + 0))) = -99 ∧ (sL (aI (G_58.2.1 (F a 10)) (10 * x43.toInt + 0))) = 99) := sFL _
              refine lv_aload_n hx hb dX11_rule_87 rfl (lv_at hl 0 rfl) ?_
              refine lv_iload_n hx hb dX11_rule_88 rfl (lv_at hl 1 rfl) ?_
              refine x_clp (x_runV (b := a) (As := [.int x43]) (rest := []) S (c_X11_firstSubject l E K F G_58 H a x43 ha (z_X11_rule_3 x43.toInt t43 c50)) mv_X11_firstSubject km_X11_179 rfl rfl ⟨Nat.le_of_ble_eq_true rfl, Nat.le_of_ble_eq_true rfl⟩ (rc_13 hK hT ha) hK (fun _ => XPh.blind) (fun U hU hW => XPh.at hK hz hS hT hU hW) rfl hl.1 (Nat.le_of_ble_eq_true rfl) dX11_rule_89 ⟨Nat.le_of_ble_eq_true rfl, Nat.le_of_ble_eq_true rfl⟩) hS ?_
              rintro _ _ locs ⟨x89, rfl, t89⟩ hS
              have t89 : x89.toInt = (sF (aI (G_58.2.1 (F a 10)) (10 * x43.toInt + 0))) := t89
              refine lv_istore_n (lv' := [(3, .int x89), (0, .ref a), (2, .int x43)]) hx hb dX11_rule_92 rfl hl (by decide) rfl (fun ls hl => ?_)
              have L93 : ∀ (N93 : Nat) (l3_93 : Int32) (H : Heap) (locs : List Loc) (ls : Array Slot), (∀ s : Int, sF (aI (G_58.2.1 (F a 10)) (10 * x43.toInt + 0)) ≤ s → s < l3_93.toInt → fzq (G_58.2.1 (F a 10)) (mw (G.2.1 (F a 1)) 0) (x43.toInt) s = 0) → (sF (aI (G_58.2.1 (F a 10)) (10 * x43.toInt + 0))) ≤ l3_93.toInt ∧ l3_93.toInt ≤ (sL (aI (G_58.2.1 (F a 10)) (10 * x43.toInt + 0))) + 1 → 2147483648 - l3_93.toInt < ((N93 : Nat) : Int) → TW E K F G_58 H → va_S (xA E) s.heap H locs → lv_has ls 4 [(0, .ref a), (2, .int x43), (3, .int l3_93)] → W p l e rm_X11_rule s m args below meth c H locs 0 0 Q (F0 m 93 ls []) := by
                intro N93
                induction N93 with
                | zero =>
                  intro l3_93 H locs ls pz I93_0 hm93
                  exact absurd hm93 (z_X11_rule_4 l3_93.toInt (xr l3_93))
                | succ N93 ih93 =>
                  intro l3_93 H locs ls pz I93_0 hm93 hT hS hl
                  refine lv_iload_n hx hb dX11_rule_93 rfl (lv_at hl 2 rfl) ?_
                  refine lv_aload_n hx hb dX11_rule_94 rfl (lv_at hl 0 rfl) ?_
                  refine lv_iload_n hx hb dX11_rule_95 rfl (lv_at hl 1 rfl) ?_
                  refine x_clp (x_runV (b := a) (As := [.int x43]) (rest := [.int l3_93]) S (c_X11_lastSubject l E K F G_58 H a x43 ha (z_X11_rule_3 x43.toInt t43 c50)) mv_X11_lastSubject km_X11_183 rfl rfl ⟨Nat.le_of_ble_eq_true rfl, Nat.le_of_ble_eq_true rfl⟩ (rc_13 hK hT ha) hK (fun _ => XPh.blind) (fun U hU hW => XPh.at hK hz hS hT hU hW) rfl hl.1 (Nat.le_of_ble_eq_true rfl) dX11_rule_96 ⟨Nat.le_of_ble_eq_true rfl, Nat.le_of_ble_eq_true rfl⟩) hS ?_
                  rintro _ _ locs ⟨x96, rfl, t96⟩ hS
                  have t96 : x96.toInt = (sL (aI (G_58.2.1 (F a 10)) (10 * x43.toInt + 0))) := t96
                  refine xi_cgt (tgt := 141) hx hb (rfl : Int32.toInt l3_93 = l3_93.toInt) (t96 : Int32.toInt x96 = (sL (aI (G_58.2.1 (F a 10)) (10 * x43.toInt + 0)))) dX11_rule_99 (by decide) (fun c99 => ?_) (fun c99 => ?_)
                  · refine lv_iload_n hx hb dX11_rule_141 rfl (lv_at hl 1 rfl) ?_
                    exact x_ri hx hb hr hlk hQ (Nat.le_of_ble_eq_true rfl) (Nat.le_of_ble_eq_true rfl) hS dX11_rule_142 G_58 ⟨_, rfl, (XFr.call (by rw [hG16]; exact XFr.dput (XFr.call (XFr.call (by rw [hG2]; exact XFr.dput XFr.rf (List.mem_of_getElem? (i := 0) rfl)) hF6 (xm1 1 rfl (xm1 2 rfl (xm1 3 rfl xm0))) xm0 xm0) hF10 (xm1 5 rfl (xm1 6 rfl (xm1 7 rfl xm0))) (xm1 0 rfl xm0) xm0) (List.mem_of_getElem? (i := 4) rfl)) hF_58 xm0 (xm1 1 rfl xm0) xm0), (by rw [(show (G_58.1 a 23).toInt = ((G6.1 a 23).toInt) from (congrArg Int32.toInt ((hF_58.1 _ _ xn0).trans ((ld_j hG16 (by decide)).trans (hF10.1 _ _ (xnj (by decide) (xnj (by decide) (xnj (by decide) xn0))))))).trans (rfl : Int32.toInt (G6.1 a 23) = ((G6.1 a 23).toInt)))] <;> exact (z_X11_rule_6 ((G6.1 a 20).toInt) ((G6.1 a 21).toInt) ((G6.1 a 23).toInt) t6)), (v_X11_rule_142_4 G_58 a ((hF_58.1 _ _ xn0).trans (ld_at hG16))), (v_X11_rule_142_5 (F := F) G a x10 G10 x43 G_58 l3_93 oq10 oq10a dfo10 oq43 cp87 pz nt0 c20 c36 t43 c50 kd87 sf87 I93_0 c99), (v_X11_rule_142_6 (F := F) G a G10 G_58 x43 hR dfo10 cp87 t43 c50)⟩ hT
                  · refine lv_aload_n hx hb dX11_rule_102 rfl (lv_at hl 0 rfl) ?_
                    refine lv_iload_n hx hb dX11_rule_103 rfl (lv_at hl 1 rfl) ?_
                    refine lv_iload_n hx hb dX11_rule_104 rfl (lv_at hl 2 rfl) ?_
                    refine lv_aload_n hx hb dX11_rule_105 rfl (lv_at hl 0 rfl) ?_
                    refine gX11_1 S hK hT ha kf_X11_9 dX11_rule_106 (fun _ _ => ?_)
                    refine lv_iconst (v := 0) hx hb dX11_rule_109 (by decide) ?_
                    refine x_clp (x_runV (b := a) (As := [.int x43, .int l3_93, .ref (F a 1), .int 0]) (rest := []) S (c_X11_fails l E K F G_58 H a x43 l3_93 (F a 1) 0 ha (XO.a hk9999j (by decide)) (z_X11_rule_3 x43.toInt t43 c50) (z_X11_rule_8 (aI (G_58.2.1 (F a 10)) (10 * x43.toInt + 0)) kd87) (z_X11_rule_9 l3_93.toInt (sF (aI (G_58.2.1 (F a 10)) (10 * x43.toInt + 0))) (sL (aI (G_58.2.1 (F a 10)) (10 * x43.toInt + 0))) I93_0 c99) (v_X11_rule_110_7 (F := F) G a G10 G_58 x43 hR dfo10 cp87 t43 c50) (v_X11_rule_110_8 (F := F) a G G_58 hM ((hF_58.2.1 _ (xn1 (xne_k hk9999j hk9999a (by decide)) xn0)).trans ((ld_c hG16).trans ((hF10.2.1 _ (xn1 (xne_k hk9999j hk9999 (by decide)) xn0)).trans ((hF6.2.1 _ xn0).trans (ld_c hG2))))))) mv_X11_fails km_X11_221 rfl rfl ⟨Nat.le_of_ble_eq_true rfl, Nat.le_of_ble_eq_true rfl⟩ (rc_13 hK hT ha) hK (fun _ => XPh.blind) (fun U hU hW => XPh.at hK hz hS hT hU hW) rfl hl.1 (Nat.le_of_ble_eq_true rfl) dX11_rule_110 ⟨Nat.le_of_ble_eq_true rfl, Nat.le_of_ble_eq_true rfl⟩) hS ?_
                    rintro _ _ locs ⟨x110, rfl, b110, t110⟩ hS
                    have t110 : x110.toInt = (flq (mw (G.2.1 (F a 1)) 0) (aI (G_58.2.1 (F a 10)) (10 * x43.toInt + 0)) (aI (G_58.2.1 (F a 10)) (10 * x43.toInt + 1)) (aI (G_58.2.1 (F a 10)) (10 * x43.toInt + 2)) (aI (G_58.2.1 (F a 10)) (10 * x43.toInt + 4)) (aI (G_58.2.1 (F a 10)) (10 * x43.toInt + 5)) (l3_93.toInt) (stt (mw (G.2.1 (F a 1)) 0) (aI (G_58.2.1 (F a 10)) (10 * x43.toInt + 0)) (aI (G_58.2.1 (F a 10)) (10 * x43.toInt + 1)) (aI (G_58.2.1 (F a 10)) (10 * x43.toInt + 2)) (aI (G_58.2.1 (F a 10)) (10 * x43.toInt + 3)) (l3_93.toInt))) := by rw [(show G_58.2.1 (F a 1) = G.2.1 (F a 1) from ((hF_58.2.1 _ (xn1 (xne_k hk9999j hk9999a (by decide)) xn0)).trans ((ld_c hG16).trans ((hF10.2.1 _ (xn1 (xne_k hk9999j hk9999 (by decide)) xn0)).trans ((hF6.2.1 _ xn0).trans (ld_c hG2))))))] at t110; exact t110
                    refine xi_zeq (tgt := 135) hx hb (rfl : Int32.toInt x110 = x110.toInt) dX11_rule_113 (by decide) (fun c113 => ?_) (fun c113 => ?_)
                    · refine xi_iinc (n := 1) (lv' := fun z9 => [(3, .int z9), (0, .ref a), (2, .int x43)]) (k := 2) hx hb (rfl : Int32.toInt l3_93 = l3_93.toInt) (by decide) dX11_rule_135 hl rfl (by decide) (fun _ => rfl) (fun x135 ls t135 hl => ?_)
                      have e135 : x135.toInt = (l3_93.toInt + 1) := (z_X11_rule_10 l3_93.toInt x135.toInt (aI (G_58.2.1 (F a 10)) (10 * x43.toInt + 0)) (sF (aI (G_58.2.1 (F a 10)) (10 * x43.toInt + 0))) (sL (aI (G_58.2.1 (F a 10)) (10 * x43.toInt + 0))) sf87 c99 t135 (xr l3_93))
                      have hl : lv_has ls 4 [(3, .int x135), (0, .ref a), (2, .int x43)] := hl
                      refine lv_goto (tgt := 93) hx hb dX11_rule_138 (by decide) ?_
                      exact ih93 x135 _ _ _ (by rw [(e135 : Int32.toInt x135 = (l3_93.toInt + 1))] <;> exact (v_X11_rule_138_9 (F := F) G_58 a x43 l3_93 G x110 pz t110 c113)) (by rw [(e135 : Int32.toInt x135 = (l3_93.toInt + 1))] <;> exact (z_X11_rule_11 l3_93.toInt (sF (aI (G_58.2.1 (F a 10)) (10 * x43.toInt + 0))) (sL (aI (G_58.2.1 (F a 10)) (10 * x43.toInt + 0))) I93_0 c99)) (by rw [(e135 : Int32.toInt x135 = (l3_93.toInt + 1))] <;> exact (z_X11_rule_12 l3_93.toInt N93 hm93)) hT hS (lv_sub hl [1, 2, 0] rfl)
                    · refine lv_aload_n hx hb dX11_rule_116 rfl (lv_at hl 0 rfl) ?_
                      refine lv_iload_n hx hb dX11_rule_117 rfl (lv_at hl 1 rfl) ?_
                      refine lv_iload_n hx hb dX11_rule_118 rfl (lv_at hl 2 rfl) ?_
                      refine x_cv0 (x_runV (b := a) (As := [.int x43, .int l3_93]) (rest := []) S (c_X11_failed l E K F G_58 a x43 l3_93 ha (z_X11_rule_3 x43.toInt t43 c50) (z_X11_rule_14 l3_93.toInt (aI (G_58.2.1 (F a 10)) (10 * x43.toInt + 0)) (sF (aI (G_58.2.1 (F a 10)) (10 * x43.toInt + 0))) (sL (aI (G_58.2.1 (F a 10)) (10 * x43.toInt + 0))) sf87 I93_0 c99)) mv_X11_failed km_X11_299 rfl rfl ⟨Nat.le_of_ble_eq_true rfl, Nat.le_of_ble_eq_true rfl⟩ (rc_13 hK hT ha) hK (fun _ => XP.blind) (fun U hU hW => XP.at hK hz hS hT hU hW) rfl hl.1 (Nat.le_of_ble_eq_true rfl) dX11_rule_119 ⟨Nat.le_of_ble_eq_true rfl, Nat.le_of_ble_eq_true rfl⟩) hS ?_
                      rintro G119 H locs ⟨hF119, t119⟩ hT hS
                      have t119 : ((G119.1 a 20).toInt) = x43.toInt ∧ ((G119.1 a 21).toInt) = l3_93.toInt ∧ 0 ≤ ((G119.1 a 23).toInt) ∧ ((G119.1 a 23).toInt) ≤ 24 := t119
                      refine lv_aload_n hx hb dX11_rule_122 rfl (lv_at hl 0 rfl) ?_
                      refine gX11_10 S hK hT ha kf_X11_33 dX11_rule_123 (fun _ _ => ?_)
                      refine lv_bipush (v := 10) hx hb dX11_rule_126 (by decide) ?_
                      refine lv_iload_n hx hb dX11_rule_128 rfl (lv_at hl 1 rfl) ?_
                      refine xi_imul hx hb ((by decide) : Int32.toInt 10 = (10 : Int)) (rfl : Int32.toInt x43 = x43.toInt) dX11_rule_129 (fun x129 t129 => ?_)
                      have e129 : x129.toInt = ((10 : Int) * x43.toInt) := (z_X11_rule_15 x129.toInt x43.toInt t43 t129)
                      refine lv_iconst (v := (-1)) hx hb dX11_rule_130 (by decide) ?_
                      refine as_0 (x := (-1)) S hK hT hS hk9999a ar_37 aw_37 (by decide) (by rw [(e129 : Int32.toInt x129 = ((10 : Int) * x43.toInt))]; exact (z_X11_rule_16 x43.toInt t43 c50)) dX11_rule_131 (fun H locs hT hS => ?_)
                      obtain ⟨G131, hG131⟩ : ∃ GG : XG, GG = cput G119 (F a 10) x129.toNatClampNeg (-1) := ⟨_, rfl⟩
                      rw [← hG131] at hT
                      refine lv_bipush (v := (-5)) hx hb dX11_rule_132 (by decide) ?_
                      exact x_ri hx hb hr hlk hQ (Nat.le_of_ble_eq_true rfl) (Nat.le_of_ble_eq_true rfl) hS dX11_rule_134 G131 ⟨_, rfl, (by rw [hG131]; exact XFr.cput (XFr.call (XFr.call (by rw [hG16]; exact XFr.dput (XFr.call (XFr.call (by rw [hG2]; exact XFr.dput XFr.rf (List.mem_of_getElem? (i := 0) rfl)) hF6 (xm1 1 rfl (xm1 2 rfl (xm1 3 rfl xm0))) xm0 xm0) hF10 (xm1 5 rfl (xm1 6 rfl (xm1 7 rfl xm0))) (xm1 0 rfl xm0) xm0) (List.mem_of_getElem? (i := 4) rfl)) hF_58 xm0 (xm1 1 rfl xm0) xm0) hF119 (xm1 1 rfl (xm1 2 rfl (xm1 3 rfl xm0))) (xm1 2 rfl xm0) xm0) (List.mem_of_getElem? (i := 1) rfl)), (by rw [(show (G131.1 a 23).toInt = ((G119.1 a 23).toInt) from (congrArg Int32.toInt (lc_d hG131)).trans (rfl : Int32.toInt (G119.1 a 23) = ((G119.1 a 23).toInt)))] <;> exact (z_X11_rule_17 l3_93.toInt x43.toInt ((G119.1 a 20).toInt) ((G119.1 a 21).toInt) ((G119.1 a 23).toInt) t119)), (v_X11_rule_134_10 G131 a ((lc_d hG131).trans ((hF119.1 _ _ (xnj (by decide) (xnj (by decide) (xnj (by decide) xn0)))).trans ((hF_58.1 _ _ xn0).trans (ld_at hG16))))), (by rw [((by decide) : Int32.toInt (-5) = (-5 : Int))] <;> exact (v_X11_rule_134_11 (F := F) G131 G119 a x129 G x10 G10 x43 G_58 l3_93 x110 hG131 oq10 oq10a dfo10 oq43 cp87 e129 nt0 c20 c36 t43 c50 kd87 sf87 I93_0 c99 t110 c113 (hF119.2.1 _ (xn1 (xne_k hk9999a hk9999b (by decide)) xn0)))), (v_X11_rule_134_12 (F := F) G131 G119 a x129 G G10 G_58 x43 hG131 hR dfo10 cp87 e129 t43 c50 (hF119.2.1 _ (xn1 (xne_k hk9999a hk9999b (by decide)) xn0)))⟩ hT
              exact L93 4294967297 x89 _ _ _ (by rw [(t89 : Int32.toInt x89 = (sF (aI (G_58.2.1 (F a 10)) (10 * x43.toInt + 0))))] <;> exact (v_X11_rule_92_13 (F := F) G_58 a x43 G)) (by rw [(t89 : Int32.toInt x89 = (sF (aI (G_58.2.1 (F a 10)) (10 * x43.toInt + 0))))] <;> exact (z_X11_rule_18 (aI (G_58.2.1 (F a 10)) (10 * x43.toInt + 0)) (sF (aI (G_58.2.1 (F a 10)) (10 * x43.toInt + 0))) (sL (aI (G_58.2.1 (F a 10)) (10 * x43.toInt + 0))) sf87)) (by rw [(t89 : Int32.toInt x89 = (sF (aI (G_58.2.1 (F a 10)) (10 * x43.toInt + 0))))] <;> exact (z_X11_rule_19 (aI (G_58.2.1 (F a 10)) (10 * x43.toInt + 0)) (sF (aI (G_58.2.1 (F a 10)) (10 * x43.toInt + 0))) (sL (aI (G_58.2.1 (F a 10)) (10 * x43.toInt + 0))) sf87)) hT hS (lv_sub hl [1, 2, 0] rfl)
            · refine lv_aload_n hx hb dX11_rule_64 rfl (lv_at hl 0 rfl) ?_
              refine gX11_10 S hK hT ha kf_X11_33 dX11_rule_65 (fun _ _ => ?_)
              refine lv_bipush (v := 10) hx hb dX11_rule_68 (by decide) ?_
              refine lv_iload_n hx hb dX11_rule_70 rfl (lv_at hl 1 rfl) ?_
              refine xi_imul hx hb ((by decide) : Int32.toInt 10 = (10 : Int)) (rfl : Int32.toInt x43 = x43.toInt) dX11_rule_71 (fun x71 t71 => ?_)
              have e71 : x71.toInt = ((10 : Int) * x43.toInt) := (z_X11_rule_20 x43.toInt x71.toInt t43 t71)
              refine lv_iload_n hx hb dX11_rule_72 rfl (lv_at hl 2 rfl) ?_
              refine xi_iadd hx hb (e71 : Int32.toInt x71 = ((10 : Int) * x43.toInt)) (rfl : Int32.toInt l3_58 = l3_58.toInt) dX11_rule_73 (fun x73 t73 => ?_)
              have e73 : x73.toInt = (((10 : Int) * x43.toInt) + l3_58.toInt) := (z_X11_rule_21 l3_58.toInt x43.toInt x73.toInt t43 I58_0 t73)
              refine lv_aload_n hx hb dX11_rule_74 rfl (lv_at hl 0 rfl) ?_
              refine gX11_40 S hK hT ha kf_X11_106 dX11_rule_75 (fun _ _ => ?_)
              refine lv_iload_n hx hb dX11_rule_78 rfl (lv_at hl 2 rfl) ?_
              refine al_0 S hK hT hk9999 ar_52 (by decide) (z_X11_rule_22 l3_58.toInt I58_0) dX11_rule_79 (fun x79 hv79 o79 => ?_)
              have hv79 : x79.toInt = (aI (G10.2.1 (F a 40)) (l3_58.toInt)) := hv79.trans (by rw [(rfl : Int32.toInt l3_58 = l3_58.toInt), (((hF_58.2.1 _ (xn1 (xne_k hk9999 hk9999a (by decide)) xn0)).trans (ld_c hG16)) : G_58.2.1 (F a 40) = G10.2.1 (F a 40))])
              refine as_0 (x := x79) S hK hT hS hk9999a ar_37 aw_37 (by decide) (by rw [(e73 : Int32.toInt x73 = (((10 : Int) * x43.toInt) + l3_58.toInt))]; exact (z_X11_rule_23 l3_58.toInt x43.toInt t43 c50 I58_0)) dX11_rule_80 (fun H locs hT hS => ?_)
              obtain ⟨G80, hG80⟩ : ∃ GG : XG, GG = cput G_58 (F a 10) x73.toNatClampNeg x79 := ⟨_, rfl⟩
              rw [← hG80] at hT
              refine xi_iinc (n := 1) (lv' := fun z9 => [(3, .int z9), (0, .ref a), (2, .int x43)]) (k := 2) hx hb (rfl : Int32.toInt l3_58 = l3_58.toInt) (by decide) dX11_rule_81 hl rfl (by decide) (fun _ => rfl) (fun x81 ls t81 hl => ?_)
              have e81 : x81.toInt = (l3_58.toInt + 1) := (z_X11_rule_24 l3_58.toInt x81.toInt I58_0 t81)
              have hl : lv_has ls 4 [(3, .int x81), (0, .ref a), (2, .int x43)] := hl
              refine lv_goto (tgt := 58) hx hb dX11_rule_84 (by decide) ?_
              exact ih58 x81 G80 _ _ _ (by rw [hG80]; exact XFr.cput (XFr.call XFr.rf hF_58 xm0 (xm1 0 rfl xm0) xm0) (List.mem_of_getElem? (i := 0) rfl)) (by rw [(e81 : Int32.toInt x81 = (l3_58.toInt + 1))] <;> exact (v_X11_rule_84_14 (F := F) G80 G_58 a x73 x79 G10 G x43 l3_58 hG80 cp e73 hv79 t43 c50 I58_0 c61)) (by rw [(e81 : Int32.toInt x81 = (l3_58.toInt + 1))] <;> exact (z_X11_rule_25 l3_58.toInt I58_0 c61)) (by rw [(e81 : Int32.toInt x81 = (l3_58.toInt + 1))] <;> exact (z_X11_rule_26 l3_58.toInt I58_0)) (by rw [(e81 : Int32.toInt x81 = (l3_58.toInt + 1))] <;> exact (z_X11_rule_12 l3_58.toInt N58 hm58)) hT hS (lv_sub hl [1, 2, 0] rfl)
        exact L58 4294967297 0 G16 _ _ _ XFr.rf (by rw [(show G16.2.1 (F a 10) = G.2.1 (F a 10) from ((ld_c hG16).trans ((hF10.2.1 _ (xn1 (xne_k hk9999a hk9999 (by decide)) xn0)).trans ((hF6.2.1 _ xn0).trans (ld_c hG2)))))] <;> exact (v_X11_rule_57_15 (F := F) x43 G10 a G)) (by decide) (by decide) (by decide) hT hS (lv_sub hl [3, 1, 0] rfl)
      · refine lv_bipush (v := (-4)) hx hb dX11_rule_53 (by decide) ?_
        exact x_ri hx hb hr hlk hQ (Nat.le_of_ble_eq_true rfl) (Nat.le_of_ble_eq_true rfl) hS dX11_rule_55 G16 ⟨_, rfl, (by rw [hG16]; exact XFr.dput (XFr.call (XFr.call (by rw [hG2]; exact XFr.dput XFr.rf (List.mem_of_getElem? (i := 0) rfl)) hF6 (xm1 1 rfl (xm1 2 rfl (xm1 3 rfl xm0))) xm0 xm0) hF10 (xm1 5 rfl (xm1 6 rfl (xm1 7 rfl xm0))) (xm1 0 rfl xm0) xm0) (List.mem_of_getElem? (i := 4) rfl)), (by rw [(show (G16.1 a 23).toInt = ((G6.1 a 23).toInt) from (congrArg Int32.toInt ((ld_j hG16 (by decide)).trans (hF10.1 _ _ (xnj (by decide) (xnj (by decide) (xnj (by decide) xn0)))))).trans (rfl : Int32.toInt (G6.1 a 23) = ((G6.1 a 23).toInt)))] <;> exact (z_X11_rule_6 ((G6.1 a 20).toInt) ((G6.1 a 21).toInt) ((G6.1 a 23).toInt) t6)), (v_X11_rule_55_16 G16 a (ld_at hG16)), (by rw [((by decide) : Int32.toInt (-4) = (-4 : Int))] <;> exact (v_X11_rule_55_17 (F := F) G a x10 G10 x43 G16 oq10 oq10a oq43 nt0 c20 c36 t43 c50 ((ld_c hG16).trans ((hF10.2.1 _ (xn1 (xne_k hk9999a hk9999 (by decide)) xn0)).trans ((hF6.2.1 _ xn0).trans (ld_c hG2)))))), (v_X11_rule_55_18 (F := F) G a G16 hR ((ld_c hG16).trans ((hF10.2.1 _ (xn1 (xne_k hk9999a hk9999 (by decide)) xn0)).trans ((hF6.2.1 _ xn0).trans (ld_c hG2)))))⟩ hT
    · refine lv_bipush (v := (-3)) hx hb dX11_rule_39 (by decide) ?_
      exact x_ri hx hb hr hlk hQ (Nat.le_of_ble_eq_true rfl) (Nat.le_of_ble_eq_true rfl) hS dX11_rule_41 G16 ⟨_, rfl, (by rw [hG16]; exact XFr.dput (XFr.call (XFr.call (by rw [hG2]; exact XFr.dput XFr.rf (List.mem_of_getElem? (i := 0) rfl)) hF6 (xm1 1 rfl (xm1 2 rfl (xm1 3 rfl xm0))) xm0 xm0) hF10 (xm1 5 rfl (xm1 6 rfl (xm1 7 rfl xm0))) (xm1 0 rfl xm0) xm0) (List.mem_of_getElem? (i := 4) rfl)), (by rw [(show (G16.1 a 23).toInt = ((G6.1 a 23).toInt) from (congrArg Int32.toInt ((ld_j hG16 (by decide)).trans (hF10.1 _ _ (xnj (by decide) (xnj (by decide) (xnj (by decide) xn0)))))).trans (rfl : Int32.toInt (G6.1 a 23) = ((G6.1 a 23).toInt)))] <;> exact (z_X11_rule_6 ((G6.1 a 20).toInt) ((G6.1 a 21).toInt) ((G6.1 a 23).toInt) t6)), (v_X11_rule_41_19 G16 a (ld_at hG16)), (by rw [((by decide) : Int32.toInt (-3) = (-3 : Int))] <;> exact (v_X11_rule_41_20 (F := F) G a x10 G10 G16 oq10 oq10a nt0 c20 c36 ((ld_c hG16).trans ((hF10.2.1 _ (xn1 (xne_k hk9999a hk9999 (by decide)) xn0)).trans ((hF6.2.1 _ xn0).trans (ld_c hG2)))))), (v_X11_rule_41_21 (F := F) G a G16 hR ((ld_c hG16).trans ((hF10.2.1 _ (xn1 (xne_k hk9999a hk9999 (by decide)) xn0)).trans ((hF6.2.1 _ xn0).trans (ld_c hG2)))))⟩ hT
  · have pb23 : 0 ≤ ((G10.1 a 38).toInt) ∧ ((G10.1 a 38).toInt) ≤ 80 := (v_X11_rule_23_22 (F := F) x10 G a G10 oq10 oq10a nt0 c20)
    refine lv_sipush (v := (-1000)) hx hb dX11_rule_23 (by decide) ?_
    refine lv_aload_n hx hb dX11_rule_26 rfl (lv_at hl 1 rfl) ?_
    refine gX11_38 S hK hT ha kf_X11_265 dX11_rule_27 (v := (G10.1 a 38)) (ld_j hG16 (by decide)) (?_)
    refine xi_isub hx hb ((by decide) : Int32.toInt (-1000) = (-1000 : Int)) (rfl : Int32.toInt (G10.1 a 38) = ((G10.1 a 38).toInt)) dX11_rule_30 (fun x30 t30 => ?_)
    have e30 : x30.toInt = ((-1000 : Int) - ((G10.1 a 38).toInt)) := (z_X11_rule_30 x30.toInt ((G10.1 a 38).toInt) pb23 t30)
    exact x_ri hx hb hr hlk hQ (Nat.le_of_ble_eq_true rfl) (Nat.le_of_ble_eq_true rfl) hS dX11_rule_31 G16 ⟨_, rfl, (by rw [hG16]; exact XFr.dput (XFr.call (XFr.call (by rw [hG2]; exact XFr.dput XFr.rf (List.mem_of_getElem? (i := 0) rfl)) hF6 (xm1 1 rfl (xm1 2 rfl (xm1 3 rfl xm0))) xm0 xm0) hF10 (xm1 5 rfl (xm1 6 rfl (xm1 7 rfl xm0))) (xm1 0 rfl xm0) xm0) (List.mem_of_getElem? (i := 4) rfl)), (by rw [(show (G16.1 a 23).toInt = ((G6.1 a 23).toInt) from (congrArg Int32.toInt ((ld_j hG16 (by decide)).trans (hF10.1 _ _ (xnj (by decide) (xnj (by decide) (xnj (by decide) xn0)))))).trans (rfl : Int32.toInt (G6.1 a 23) = ((G6.1 a 23).toInt)))] <;> exact (z_X11_rule_6 ((G6.1 a 20).toInt) ((G6.1 a 21).toInt) ((G6.1 a 23).toInt) t6)), (v_X11_rule_31_23 G16 a (ld_at hG16)), (by rw [(e30 : Int32.toInt x30 = ((-1000 : Int) - ((G10.1 a 38).toInt)))] <;> exact (v_X11_rule_31_24 (F := F) G a x10 G10 G16 oq10 oq10a nt0 c20 ((ld_c hG16).trans ((hF10.2.1 _ (xn1 (xne_k hk9999a hk9999 (by decide)) xn0)).trans ((hF6.2.1 _ xn0).trans (ld_c hG2)))))), (v_X11_rule_31_25 (F := F) G a G16 hR ((ld_c hG16).trans ((hF10.2.1 _ (xn1 (xne_k hk9999a hk9999 (by decide)) xn0)).trans ((hF6.2.1 _ xn0).trans (ld_c hG2)))))⟩ hT

