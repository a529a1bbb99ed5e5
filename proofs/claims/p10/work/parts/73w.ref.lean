theorem z_X11_fresh_1 (a0 : Int) (a1 : Int) (a2 : Int) (a3 : Int) (a4 : Int) (h0 : 0 ≤ a4 ∧ a4 ≤ 8) (h1 : (a3 ≠ 0 ∧ 0 ≤ a0 ∧ a0 ≤ a4 - 1 ∧ a2 = 1) ∨ (¬ (a3 ≠ 0 ∧ 0 ≤ a0 ∧ a0 ≤ a4 - 1) ∧ a2 = 0)) (h2 : ¬ (a2 = 0)) (h3 : a1 = ((360 : Int) * a0) ∨ ((360 : Int) * a0) < -2147483648 ∨ 2147483648 ≤ ((360 : Int) * a0)) : a1 = ((360 : Int) * a0) := by omega
theorem z_X11_fresh_2 (a0 : Int) (a1 : Int) (a2 : Int) (a3 : Int) (h0 : 0 ≤ a3 ∧ a3 ≤ 8) (h1 : (a2 ≠ 0 ∧ 0 ≤ a0 ∧ a0 ≤ a3 - 1 ∧ a1 = 1) ∨ (¬ (a2 ≠ 0 ∧ 0 ≤ a0 ∧ a0 ≤ a3 - 1) ∧ a1 = 0)) (h2 : ¬ (a1 = 0)) : 0 ≤ ((360 : Int) * a0) ∧ ((360 : Int) * a0) ≤ 2520 := by omega
theorem z_X11_fresh_3 (a0 : Int) (h0 : 0 ≤ a0 ∧ a0 ≤ 12) : ¬ (100 - a0 < ((0 : Nat) : Int)) := by omega
theorem z_X11_fresh_4 (a0 : Int) (a1 : Int) (h0 : 0 ≤ a0 ∧ a0 ≤ 12) (h1 : a1 = (a0 + 1) ∨ (a0 + 1) < -2147483648 ∨ 2147483648 ≤ (a0 + 1)) : a1 = (a0 + 1) := by omega
theorem z_X11_fresh_5 (a0 : Int) (h0 : 0 ≤ a0 ∧ a0 ≤ 12) (h1 : ¬ ((12 : Int) ≤ a0)) : 0 ≤ (a0 + 1) ∧ (a0 + 1) ≤ 12 := by omega
theorem z_X11_fresh_6 (a0 : Int) (a1 : Nat) (h0 : 100 - a0 < ((a1 + 1 : Nat) : Int)) : 100 - (a0 + 1) < ((a1 : Nat) : Int) := by omega
theorem z_X11_fresh_7 (a0 : Int) (h0 : 0 ≤ a0 ∧ a0 ≤ 12) (h1 : ¬ ((12 : Int) ≤ a0)) : 0 ≤ a0 ∧ a0 ≤ 11 := by omega
theorem z_X11_fresh_10 (a0 : Int) (h0 : -2147483648 ≤ a0 ∧ a0 < 2147483648) : ¬ (2147483648 - a0 < ((0 : Nat) : Int)) := by omega
theorem z_X11_fresh_12 (a0 : Int) (a1 : Int) (a2 : Int) (a3 : Int) (a4 : Int) (h0 : 0 ≤ a0 ∧ a0 ≤ 12) (h1 : ¬ ((12 : Int) ≤ a0)) (h2 : ((a2 = 2 ∨ a2 = 4 ∨ a2 = 5) ∧ a3 = 0 ∧ a4 = 29) ∨ (¬ (a2 = 2 ∨ a2 = 4 ∨ a2 = 5) ∧ a3 = -99 ∧ a4 = 99)) (h3 : a3 ≤ a1 ∧ a1 ≤ a4 + 1) (h4 : ¬ (a4 < a1)) : 0 ≤ a0 ∧ a0 ≤ 11 ∧ -99 ≤ a1 ∧ a1 ≤ 99 := by omega
theorem z_X11_fresh_13 (a0 : Int) (a1 : Int) (a2 : Int) (a3 : Int) (a4 : Int) (h0 : 0 ≤ a0 ∧ a0 ≤ 12) (h1 : ¬ ((12 : Int) ≤ a0)) (h2 : ((a2 = 2 ∨ a2 = 4 ∨ a2 = 5) ∧ a3 = 0 ∧ a4 = 29) ∨ (¬ (a2 = 2 ∨ a2 = 4 ∨ a2 = 5) ∧ a3 = -99 ∧ a4 = 99)) (h3 : a3 ≤ a1 ∧ a1 ≤ a4 + 1) (h4 : ¬ (a4 < a1)) : 0 ≤ 199 * a0 + a1 + 99 ∧ 199 * a0 + a1 + 99 < ((2388 : Nat) : Int) := by omega
theorem z_X11_fresh_15 (a0 : Int) (a1 : Int) (a2 : Int) (a3 : Int) (a4 : Int) (h0 : ((a2 = 2 ∨ a2 = 4 ∨ a2 = 5) ∧ a3 = 0 ∧ a4 = 29) ∨ (¬ (a2 = 2 ∨ a2 = 4 ∨ a2 = 5) ∧ a3 = -99 ∧ a4 = 99)) (h1 : ¬ (a4 < a0)) (h2 : a1 = (a0 + 1) ∨ (a0 + 1) < -2147483648 ∨ 2147483648 ≤ (a0 + 1)) (h3 : -2147483648 ≤ a0 ∧ a0 < 2147483648) : a1 = (a0 + 1) := by omega
theorem z_X11_fresh_16 (a0 : Int) (a1 : Int) (a2 : Int) (h0 : a1 ≤ a0 ∧ a0 ≤ a2 + 1) (h1 : ¬ (a2 < a0)) : a1 ≤ (a0 + 1) ∧ (a0 + 1) ≤ a2 + 1 := by omega
theorem z_X11_fresh_17 (a0 : Int) (a1 : Nat) (h0 : 2147483648 - a0 < ((a1 + 1 : Nat) : Int)) : 2147483648 - (a0 + 1) < ((a1 : Nat) : Int) := by omega
theorem z_X11_fresh_22 (a0 : Int) (a1 : Int) (a2 : Int) (h0 : ((a0 = 2 ∨ a0 = 4 ∨ a0 = 5) ∧ a1 = 0 ∧ a2 = 29) ∨ (¬ (a0 = 2 ∨ a0 = 4 ∨ a0 = 5) ∧ a1 = -99 ∧ a2 = 99)) : a1 ≤ a1 ∧ a1 ≤ a2 + 1 := by omega
theorem z_X11_fresh_23 (a0 : Int) (a1 : Int) (a2 : Int) (h0 : ((a0 = 2 ∨ a0 = 4 ∨ a0 = 5) ∧ a1 = 0 ∧ a2 = 29) ∨ (¬ (a0 = 2 ∨ a0 = 4 ∨ a0 = 5) ∧ a1 = -99 ∧ a2 = 99)) : 2147483648 - a1 < ((4294967297 : Nat) : Int) := by omega
abbrev rm_X11_fresh : Room := { frames := 5, cells := 0, slots := 0, locals := 122 }
set_option maxHeartbeats 4000000 in
set_option maxRecDepth 100000 in
theorem c_X11_fresh (l : Launch) (E : XE) (K : Nat → Nat) (F : Nat → Nat → Nat) (G : XG) (a : Nat) (p0 : Int32) (p1 : Int32) (ha : K a = 13) (m0 : 0 ≤ ((G.1 a 7).toInt) ∧ ((G.1 a 7).toInt) ≤ 8) (hR : RV (G.2.1 (F a 10))) (hM : RM (G.2.1 (F a 1)) (0)) (hB : RM (G.2.1 (F a 2)) 0) (hmk : ∀ m : Int, 0 ≤ m → m < ((G.1 a 7).toInt) → RM (G.2.1 (F a 3)) (360 * m)) : Met l yX11_fresh (xw yX11_fresh cX11_fresh 8 (some .int)) rm_X11_fresh (va_Pc [.ref a, .int p0, .int p1] (XP E K F G)) (XQ E (fun v (u : XG) => ∃ r : Int32, v = .int r ∧ XFr [(a, 0), (a, 16), (a, 19)] [F a 15, F a 17, F a 18, F a 11, F a 13, F a 14] [] G u) (fun u H => TW E K F u H)) 0 0 (xA E) := by
  refine x_enter (by decide) (Nat.le_of_ble_eq_true rfl) ?_
  intro p e s m args below meth c Q S hr hlk hnm hQ hP ls hl
  obtain ⟨hz, hK, hT⟩ := hP
  obtain ⟨hx, hb, -, -, -⟩ := id S
  obtain ⟨H, hT, hS, hgo⟩ : ∃ H : Heap, TW E K F G H ∧ va_S (xA E) s.heap H [] ∧ H = s.heap := ⟨_, hT, va_S.rf, rfl⟩
  rw [← hgo]
  have hl : lv_has ls 8 [(0, .ref a), (1, .int p0), (2, .int p1)] := hl
  obtain ⟨hk9999, hj9999⟩ := fkX11_15 hT ha
  obtain ⟨hk9999a, hj9999a⟩ := fkX11_17 hT ha
  obtain ⟨hk9999b, hj9999b⟩ := fkX11_18 hT ha
  obtain ⟨hk9999c, hj9999c⟩ := fkX11_11 hT ha
  obtain ⟨hk9999d, hj9999d⟩ := fkX11_13 hT ha
  obtain ⟨hk9999e, hj9999e⟩ := fkX11_14 hT ha
  obtain ⟨hk9999f, hj9999f⟩ := fkX11_10 hT ha
  obtain ⟨hk9999g, hj9999g⟩ := fkX11_3 hT ha
  obtain ⟨hk9999h, hj9999h⟩ := fkX11_1 hT ha
  obtain ⟨hk9999i, hj9999i⟩ := fkX11_2 hT ha
  refine lv_aload_n hx hb dX11_fresh_0 rfl (lv_at hl 0 rfl) ?_
  refine lv_iconst (v := 0) hx hb dX11_fresh_1 (by decide) ?_
  refine pX11_0 (v := 0) S hK hT hS ha kf_X11_134 dX11_fresh_2 (fun H locs hT hS => ?_)
  obtain ⟨G2, hG2⟩ : ∃ GG : XG, GG = dput G a 0 0 := ⟨_, rfl⟩
  rw [← hG2] at hT
  refine lv_aload_n hx hb dX11_fresh_5 rfl (lv_at hl 0 rfl) ?_
  refine lv_iload_n hx hb dX11_fresh_6 rfl (lv_at hl 1 rfl) ?_
  refine x_clp (x_runV (b := a) (As := [.int p0]) (rest := []) S (c_X11_isMark l E K F G2 H a p0 ha) mv_X11_isMark km_X11_382 rfl rfl ⟨Nat.le_of_ble_eq_true rfl, Nat.le_of_ble_eq_true rfl⟩ (rc_13 hK hT ha) hK (fun _ => XPh.blind) (fun U hU hW => XPh.at hK hz hS hT hU hW) rfl hl.1 (Nat.le_of_ble_eq_true rfl) dX11_fresh_7 ⟨Nat.le_of_ble_eq_true rfl, Nat.le_of_ble_eq_true rfl⟩) hS ?_
  rintro _ _ locs ⟨x7, rfl, b7, t7⟩ hS
  have t7 : (((G.1 a 6).toInt) ≠ 0 ∧ 0 ≤ p0.toInt ∧ p0.toInt ≤ ((G.1 a 7).toInt) - 1 ∧ x7.toInt = 1) ∨ (¬ (((G.1 a 6).toInt) ≠ 0 ∧ 0 ≤ p0.toInt ∧ p0.toInt ≤ ((G.1 a 7).toInt) - 1) ∧ x7.toInt = 0) := by rw [(show (G2.1 a 6).toInt = ((G.1 a 6).toInt) from (congrArg Int32.toInt (ld_j hG2 (by decide))).trans (rfl : Int32.toInt (G.1 a 6) = ((G.1 a 6).toInt)))] at t7; rw [(show (G2.1 a 7).toInt = ((G.1 a 7).toInt) from (congrArg Int32.toInt (ld_j hG2 (by decide))).trans (rfl : Int32.toInt (G.1 a 7) = ((G.1 a 7).toInt)))] at t7; exact t7
  refine xi_zeq (tgt := 23) hx hb (rfl : Int32.toInt x7 = x7.toInt) dX11_fresh_10 (by decide) (fun c10 => ?_) (fun c10 => ?_)
  · refine lv_iconst (v := (-1)) hx hb dX11_fresh_23 (by decide) ?_
    exact x_ri hx hb hr hlk hQ (Nat.le_of_ble_eq_true rfl) (Nat.le_of_ble_eq_true rfl) hS dX11_fresh_24 G2 ⟨_, rfl, (by rw [hG2]; exact XFr.dput XFr.rf (List.mem_of_getElem? (i := 0) rfl))⟩ hT
  · refine lv_iload_n hx hb dX11_fresh_13 rfl (lv_at hl 2 rfl) ?_
    refine lv_i2l (v := p1.toInt64) hx hb dX11_fresh_14 rfl ?_
    refine lv_lconst (v := (0 : Int64)) hx hb dX11_fresh_15 (by decide) ?_
    refine lv_lconst (v := (1 : Int64)) hx hb dX11_fresh_16 (by decide) ?_
    refine x_clp (x_runS (As := [.long p1.toInt64, .long (0 : Int64), .long (1 : Int64)]) (rest := []) S (c_X11_in l E K F G2 H p1.toInt64 p1.toInt (0 : Int64) (0 : Int) (1 : Int64) (1 : Int) (xl_i2l (rfl : Int32.toInt p1 = p1.toInt)) (by decide) (by decide)) ms_X11_in km_X11_139 rfl rfl ⟨Nat.le_of_ble_eq_true rfl, Nat.le_of_ble_eq_true rfl⟩ hK (fun _ => XPh.blind) (fun U hU hW => XPh.at hK hz hS hT hU hW) rfl hl.1 (Nat.le_of_ble_eq_true rfl) dX11_fresh_17 ⟨Nat.le_of_ble_eq_true rfl, Nat.le_of_ble_eq_true rfl⟩) hS ?_
    rintro _ _ locs ⟨x17, rfl, b17, t17⟩ hS
    have t17 : (x17.toInt = 1 ∧ (0 : Int) ≤ p1.toInt ∧ p1.toInt ≤ (1 : Int)) ∨ (x17.toInt = 0 ∧ (p1.toInt < (0 : Int) ∨ (1 : Int) < p1.toInt)) := t17
    refine xi_zne (tgt := 25) hx hb (rfl : Int32.toInt x17 = x17.toInt) dX11_fresh_20 (by decide) (fun c20 => ?_) (fun c20 => ?_)
    · refine lv_aload_n hx hb dX11_fresh_25 rfl (lv_at hl 0 rfl) ?_
      refine x_cv0 (x_runV (b := a) (As := []) (rest := []) S (c_X11_findQueue l E K F G2 a ha (v_X11_fresh_26_1 (F := F) a G2 G hR (ld_c hG2)) (v_X11_fresh_26_2 (F := F) a G2 G hM hB (ld_c hG2)) (v_X11_fresh_26_3 (F := F) a G2 G hM hB (ld_c hG2))) mv_X11_findQueue km_X11_218 rfl rfl ⟨Nat.le_of_ble_eq_true rfl, Nat.le_of_ble_eq_true rfl⟩ (rc_13 hK hT ha) hK (fun _ => XP.blind) (fun U hU hW => XP.at hK hz hS hT hU hW) rfl hl.1 (Nat.le_of_ble_eq_true rfl) dX11_fresh_26 ⟨Nat.le_of_ble_eq_true rfl, Nat.le_of_ble_eq_true rfl⟩) hS ?_
      rintro G26 H locs ⟨hF26, t26, oq26⟩ hT hS
      have t26 : 0 ≤ ((G26.1 a 19).toInt) ∧ ((G26.1 a 19).toInt) ≤ 2388 := t26
      have oq26 : pL G26 F a = if ((G.1 a 6).toInt) = 0 then [] else fuO (G.2.1 (F a 10)) (mw (G.2.1 (F a 1)) 0) (mw (G.2.1 (F a 2)) 0) 1 := by simp only [(show G2.1 a 6 = G.1 a 6 from (ld_j hG2 (by decide))), (show G2.2.1 (F a 10) = G.2.1 (F a 10) from (ld_c hG2)), (show G2.2.1 (F a 1) = G.2.1 (F a 1) from (ld_c hG2)), (show G2.2.1 (F a 2) = G.2.1 (F a 2) from (ld_c hG2))] at oq26; exact oq26
      refine lv_aload_n hx hb dX11_fresh_29 rfl (lv_at hl 0 rfl) ?_
      refine lv_aload_n hx hb dX11_fresh_30 rfl (lv_at hl 0 rfl) ?_
      refine gX11_14 S hK hT ha kf_X11_45 dX11_fresh_31 (fun _ _ => ?_)
      refine lv_aload_n hx hb dX11_fresh_34 rfl (lv_at hl 0 rfl) ?_
      refine gX11_3 S hK hT ha kf_X11_18 dX11_fresh_35 (fun _ _ => ?_)
      refine lv_sipush (v := 360) hx hb dX11_fresh_38 (by decide) ?_
      refine lv_iload_n hx hb dX11_fresh_41 rfl (lv_at hl 1 rfl) ?_
      refine xi_imul hx hb ((by decide) : Int32.toInt 360 = (360 : Int)) (rfl : Int32.toInt p0 = p0.toInt) dX11_fresh_42 (fun x42 t42 => ?_)
      have e42 : x42.toInt = ((360 : Int) * p0.toInt) := (z_X11_fresh_1 p0.toInt x42.toInt x7.toInt ((G.1 a 6).toInt) ((G.1 a 7).toInt) m0 t7 c10 t42)
      refine x_cv0 (x_runV (b := a) (As := [.ref (F a 14), .ref (F a 3), .int x42]) (rest := []) S (c_X11_layStates l E K F G26 a (F a 14) (F a 3) x42 ha hk9999e (XO.c hk9999g (by rw [(e42 : Int32.toInt x42 = ((360 : Int) * p0.toInt))] <;> exact (z_X11_fresh_2 p0.toInt x7.toInt ((G.1 a 6).toInt) ((G.1 a 7).toInt) m0 t7 c10))) (v_X11_fresh_43_4 (F := F) a G G26 hR ((hF26.2.1 _ (xn1 (xne_k hk9999f hk9999 (by decide)) (xn1 (xne_k hk9999f hk9999a (by decide)) (xn1 (xne_k hk9999f hk9999b (by decide)) (xn1 (xne_k hk9999f hk9999c (by decide)) (xn1 (xne_k hk9999f hk9999d (by decide)) xn0)))))).trans (ld_c hG2))) (by rw [(e42 : Int32.toInt x42 = ((360 : Int) * p0.toInt))] <;> exact (v_X11_fresh_43_5 (F := F) G a p0 x7 G26 hmk m0 t7 c10 ((hF26.2.1 _ (xn1 (xne_k hk9999g hk9999 (by decide)) (xn1 (xne_k hk9999g hk9999a (by decide)) (xn1 (xne_k hk9999g hk9999b (by decide)) (xn1 (xne_k hk9999g hk9999c (by decide)) (xn1 (xne_k hk9999g hk9999d (by decide)) xn0)))))).trans (ld_c hG2))))) mv_X11_layStates km_X11_210 rfl rfl ⟨Nat.le_of_ble_eq_true rfl, Nat.le_of_ble_eq_true rfl⟩ (rc_13 hK hT ha) hK (fun _ => XP.blind) (fun U hU hW => XP.at hK hz hS hT hU hW) rfl hl.1 (Nat.le_of_ble_eq_true rfl) dX11_fresh_43 ⟨Nat.le_of_ble_eq_true rfl, Nat.le_of_ble_eq_true rfl⟩) hS ?_
      rintro G43 H locs ⟨hF43, oq43⟩ hT hS
      have oq43 : LSt (G.2.1 (F a 10)) (G43.2.1 (F a 14)) (mw (G.2.1 (F a 3)) ((360 : Int) * p0.toInt)) 12 := by simp only [(e42 : Int32.toInt x42 = ((360 : Int) * p0.toInt)), (show G26.2.1 (F a 10) = G.2.1 (F a 10) from ((hF26.2.1 _ (xn1 (xne_k hk9999f hk9999 (by decide)) (xn1 (xne_k hk9999f hk9999a (by decide)) (xn1 (xne_k hk9999f hk9999b (by decide)) (xn1 (xne_k hk9999f hk9999c (by decide)) (xn1 (xne_k hk9999f hk9999d (by decide)) xn0)))))).trans (ld_c hG2))), (show G26.2.1 (F a 3) = G.2.1 (F a 3) from ((hF26.2.1 _ (xn1 (xne_k hk9999g hk9999 (by decide)) (xn1 (xne_k hk9999g hk9999a (by decide)) (xn1 (xne_k hk9999g hk9999b (by decide)) (xn1 (xne_k hk9999g hk9999c (by decide)) (xn1 (xne_k hk9999g hk9999d (by decide)) xn0)))))).trans (ld_c hG2)))] at oq43; exact oq43
      refine lv_iconst (v := 0) hx hb dX11_fresh_46 (by decide) ?_
      refine lv_istore_n (lv' := [(3, .int 0), (0, .ref a), (1, .int p0), (2, .int p1)]) hx hb dX11_fresh_47 rfl hl (by decide) rfl (fun ls hl => ?_)
      refine lv_iconst (v := 0) hx hb dX11_fresh_48 (by decide) ?_
      refine lv_istore (lv' := [(4, .int 0), (3, .int 0), (0, .ref a), (1, .int p0), (2, .int p1)]) hx hb dX11_fresh_49 hl (by decide) rfl (fun ls hl => ?_)
      have L51 : ∀ (N51 : Nat) (l3_51 : Int32) (l4_51 : Int32) (H : Heap) (locs : List Loc) (ls : Array Slot), 0 ≤ l4_51.toInt ∧ l4_51.toInt ≤ 12 → 100 - l4_51.toInt < ((N51 : Nat) : Int) → TW E K F G43 H → va_S (xA E) s.heap H locs → lv_has ls 8 [(0, .ref a), (2, .int p1), (3, .int l3_51), (4, .int l4_51)] → W p l e rm_X11_fresh s m args below meth c H locs 0 0 Q (F0 m 51 ls []) := by
        intro N51
        induction N51 with
        | zero =>
          intro l3_51 l4_51 H locs ls I51_0 hm51
          exact absurd hm51 (z_X11_fresh_3 l4_51.toInt I51_0)
        | succ N51 ih51 =>
          intro l3_51 l4_51 H locs ls I51_0 hm51 hT hS hl
          refine lv_iload hx hb dX11_fresh_51 (lv_at hl 3 rfl) ?_
          refine lv_bipush (v := 12) hx hb dX11_fresh_53 (by decide) ?_
          refine xi_cge (tgt := 207) hx hb (rfl : Int32.toInt l4_51 = l4_51.toInt) ((by decide) : Int32.toInt 12 = (12 : Int)) dX11_fresh_55 (by decide) (fun c55 => ?_) (fun c55 => ?_)
          · refine lv_iload_n hx hb dX11_fresh_207 rfl (lv_at hl 2 rfl) ?_
            exact x_ri hx hb hr hlk hQ (Nat.le_of_ble_eq_true rfl) (Nat.le_of_ble_eq_true rfl) hS dX11_fresh_208 G43 ⟨_, rfl, (XFr.call (XFr.call (by rw [hG2]; exact XFr.dput XFr.rf (List.mem_of_getElem? (i := 0) rfl)) hF26 (xm1 1 rfl (xm1 2 rfl xm0)) (xm1 0 rfl (xm1 1 rfl (xm1 2 rfl (xm1 3 rfl (xm1 4 rfl xm0))))) xm0) hF43 xm0 (xm1 5 rfl xm0) xm0)⟩ hT
          · refine lv_aload_n hx hb dX11_fresh_58 rfl (lv_at hl 0 rfl) ?_
            refine lv_iload hx hb dX11_fresh_59 (lv_at hl 3 rfl) ?_
            refine x_clp (x_runV (b := a) (As := [.int l4_51]) (rest := []) S (c_X11_isRule l E K F G43 H a l4_51 ha) mv_X11_isRule km_X11_162 rfl rfl ⟨Nat.le_of_ble_eq_true rfl, Nat.le_of_ble_eq_true rfl⟩ (rc_13 hK hT ha) hK (fun _ => XPh.blind) (fun U hU hW => XPh.at hK hz hS hT hU hW) rfl hl.1 (Nat.le_of_ble_eq_true rfl) dX11_fresh_61 ⟨Nat.le_of_ble_eq_true rfl, Nat.le_of_ble_eq_true rfl⟩) hS ?_
            rintro _ _ locs ⟨x61, rfl, b61, t61⟩ hS
            have t61 : (x61.toInt = 1 ∧ 0 ≤ l4_51.toInt ∧ l4_51.toInt ≤ 11 ∧ (aI (G.2.1 (F a 10)) (10 * l4_51.toInt + 0)) ≠ -1) ∨ (x61.toInt = 0 ∧ (¬ (0 ≤ l4_51.toInt ∧ l4_51.toInt ≤ 11) ∨ (aI (G.2.1 (F a 10)) (10 * l4_51.toInt + 0)) = -1)) := by rw [(show G43.2.1 (F a 10) = G.2.1 (F a 10) from ((hF43.2.1 _ (xn1 (xne_k hk9999f hk9999e (by decide)) xn0)).trans ((hF26.2.1 _ (xn1 (xne_k hk9999f hk9999 (by decide)) (xn1 (xne_k hk9999f hk9999a (by decide)) (xn1 (xne_k hk9999f hk9999b (by decide)) (xn1 (xne_k hk9999f hk9999c (by decide)) (xn1 (xne_k hk9999f hk9999d (by decide)) xn0)))))).trans (ld_c hG2))))] at t61; exact t61
            have J201 : ∀ (l3_201 : Int32) (H : Heap) (locs : List Loc) (ls : Array Slot), TW E K F G43 H → va_S (xA E) s.heap H locs → lv_has ls 8 [(0, .ref a), (2, .int p1), (3, .int l3_201), (4, .int l4_51)] → W p l e rm_X11_fresh s m args below meth c H locs 0 0 Q (F0 m 201 ls []) := by
              intro l3_201 H locs ls hT hS hl
              refine xi_iinc (n := 1) (lv' := fun z9 => [(4, .int z9), (0, .ref a), (2, .int p1), (3, .int l3_201)]) (k := 3) hx hb (rfl : Int32.toInt l4_51 = l4_51.toInt) (by decide) dX11_fresh_201 hl rfl (by decide) (fun _ => rfl) (fun x201 ls t201 hl => ?_)
              have e201 : x201.toInt = (l4_51.toInt + 1) := (z_X11_fresh_4 l4_51.toInt x201.toInt I51_0 t201)
              have hl : lv_has ls 8 [(4, .int x201), (0, .ref a), (2, .int p1), (3, .int l3_201)] := hl
              refine lv_goto (tgt := 51) hx hb dX11_fresh_204 (by decide) ?_
              exact ih51 l3_201 x201 _ _ _ (by rw [(e201 : Int32.toInt x201 = (l4_51.toInt + 1))] <;> exact (z_X11_fresh_5 l4_51.toInt I51_0 c55)) (by rw [(e201 : Int32.toInt x201 = (l4_51.toInt + 1))] <;> exact (z_X11_fresh_6 l4_51.toInt N51 hm51)) hT hS (lv_sub hl [1, 2, 3, 0] rfl)
            refine xi_zeq (tgt := 201) hx hb (rfl : Int32.toInt x61 = x61.toInt) dX11_fresh_64 (by decide) (fun c64 => ?_) (fun c64 => ?_)
            · exact J201 l3_51 _ _ _ hT hS (lv_sub hl [0, 1, 2, 3] rfl)
            · refine lv_aload_n hx hb dX11_fresh_67 rfl (lv_at hl 0 rfl) ?_
              refine lv_iload hx hb dX11_fresh_68 (lv_at hl 3 rfl) ?_
              refine lv_bipush (v := 6) hx hb dX11_fresh_70 (by decide) ?_
              refine x_clp (x_runV (b := a) (As := [.int l4_51, .int 6]) (rest := []) S (c_X11_of l E K F G43 H a l4_51 6 ha (z_X11_fresh_7 l4_51.toInt I51_0 c55) (by decide)) mv_X11_of km_X11_165 rfl rfl ⟨Nat.le_of_ble_eq_true rfl, Nat.le_of_ble_eq_true rfl⟩ (rc_13 hK hT ha) hK (fun _ => XPh.blind) (fun U hU hW => XPh.at hK hz hS hT hU hW) rfl hl.1 (Nat.le_of_ble_eq_true rfl) dX11_fresh_72 ⟨Nat.le_of_ble_eq_true rfl, Nat.le_of_ble_eq_true rfl⟩) hS ?_
              rintro _ _ locs ⟨x72, rfl, t72⟩ hS
              have t72 : x72.toInt = (aI (G.2.1 (F a 10)) (10 * l4_51.toInt + 6)) := by rw [(show G43.2.1 (F a 10) = G.2.1 (F a 10) from ((hF43.2.1 _ (xn1 (xne_k hk9999f hk9999e (by decide)) xn0)).trans ((hF26.2.1 _ (xn1 (xne_k hk9999f hk9999 (by decide)) (xn1 (xne_k hk9999f hk9999a (by decide)) (xn1 (xne_k hk9999f hk9999b (by decide)) (xn1 (xne_k hk9999f hk9999c (by decide)) (xn1 (xne_k hk9999f hk9999d (by decide)) xn0)))))).trans (ld_c hG2))))] at t72; exact t72
              refine lv_iconst (v := 1) hx hb dX11_fresh_75 (by decide) ?_
              refine xi_cne (tgt := 201) hx hb (t72 : Int32.toInt x72 = (aI (G.2.1 (F a 10)) (10 * l4_51.toInt + 6))) ((by decide) : Int32.toInt 1 = (1 : Int)) dX11_fresh_76 (by decide) (fun c76 => ?_) (fun c76 => ?_)
              · exact J201 l3_51 _ _ _ hT hS (lv_sub hl [0, 1, 2, 3] rfl)
              · have z79 : (-1 ≤ (aI (G.2.1 (F a 10)) (10 * l4_51.toInt + 0)) ∧ (aI (G.2.1 (F a 10)) (10 * l4_51.toInt + 0)) ≤ 5) ∧ (0 ≤ (aI (G.2.1 (F a 10)) (10 * l4_51.toInt + 1)) ∧ (aI (G.2.1 (F a 10)) (10 * l4_51.toInt + 1)) ≤ 2) ∧ (0 ≤ (aI (G.2.1 (F a 10)) (10 * l4_51.toInt + 2)) ∧ (aI (G.2.1 (F a 10)) (10 * l4_51.toInt + 2)) ≤ 2) ∧ (-1 ≤ (aI (G.2.1 (F a 10)) (10 * l4_51.toInt + 3)) ∧ (aI (G.2.1 (F a 10)) (10 * l4_51.toInt + 3)) ≤ 2) ∧ ((aI (G.2.1 (F a 10)) (10 * l4_51.toInt + 0)) = 1 ∨ (aI (G.2.1 (F a 10)) (10 * l4_51.toInt + 0)) = 3 ∨ (aI (G.2.1 (F a 10)) (10 * l4_51.toInt + 0)) = 4 → 0 ≤ (aI (G.2.1 (F a 10)) (10 * l4_51.toInt + 3))) := RV.row hR (z_X11_fresh_7 l4_51.toInt I51_0 c55)
                have z79a : (((aI (G.2.1 (F a 10)) (10 * l4_51.toInt + 0)) = 2 ∨ (aI (G.2.1 (F a 10)) (10 * l4_51.toInt + 0)) = 4 ∨ (aI (G.2.1 (F a 10)) (10 * l4_51.toInt + 0)) = 5) ∧ (sF (aI (G.2.1 (F a 10)) (10 * l4_51.toInt + 0))) = 0 ∧ (sL (aI (G.2.1 (F a 10)) (10 * l4_51.toInt + 0))) = 29) ∨ (¬ ((aI (G.2.1 (F a 10)) (10 * l4_51.toInt + 0)) = 2 ∨ (aI (G.2.1 (F a 10)) (10 * l4_51.toInt + 0)) = 4 ∨ (aI (G.2.1 (F a 10)) (10 * l4_51.toInt + 0)) = 5) ∧ (sF (aI (G.2.1 (F a 10)) (10 * l4_51.toInt + 0))) = -99 ∧ (sL (aI (G.2.1 (F a 10)) (10 * l4_51.toInt + 0))) = 99) := sFL _
                refine lv_aload_n hx hb dX11_fresh_79 rfl (lv_at hl 0 rfl) ?_
                refine lv_iload hx hb dX11_fresh_80 (lv_at hl 3 rfl) ?_
                refine x_clp (x_runV (b := a) (As := [.int l4_51]) (rest := []) S (c_X11_firstSubject l E K F G43 H a l4_51 ha (z_X11_fresh_7 l4_51.toInt I51_0 c55)) mv_X11_firstSubject km_X11_179 rfl rfl ⟨Nat.le_of_ble_eq_true rfl, Nat.le_of_ble_eq_true rfl⟩ (rc_13 hK hT ha) hK (fun _ => XPh.blind) (fun U hU hW => XPh.at hK hz hS hT hU hW) rfl hl.1 (Nat.le_of_ble_eq_true rfl) dX11_fresh_82 ⟨Nat.le_of_ble_eq_true rfl, Nat.le_of_ble_eq_true rfl⟩) hS ?_
                rintro _ _ locs ⟨x82, rfl, t82⟩ hS
                have t82 : x82.toInt = (sF (aI (G.2.1 (F a 10)) (10 * l4_51.toInt + 0))) := by rw [(show G43.2.1 (F a 10) = G.2.1 (F a 10) from ((hF43.2.1 _ (xn1 (xne_k hk9999f hk9999e (by decide)) xn0)).trans ((hF26.2.1 _ (xn1 (xne_k hk9999f hk9999 (by decide)) (xn1 (xne_k hk9999f hk9999a (by decide)) (xn1 (xne_k hk9999f hk9999b (by decide)) (xn1 (xne_k hk9999f hk9999c (by decide)) (xn1 (xne_k hk9999f hk9999d (by decide)) xn0)))))).trans (ld_c hG2))))] at t82; exact t82
                refine lv_istore (lv' := [(5, .int x82), (0, .ref a), (2, .int p1), (3, .int l3_51), (4, .int l4_51)]) hx hb dX11_fresh_85 hl (by decide) rfl (fun ls hl => ?_)
                have L87 : ∀ (N87 : Nat) (l3_87 : Int32) (l5_87 : Int32) (H : Heap) (locs : List Loc) (ls : Array Slot), (sF (aI (G.2.1 (F a 10)) (10 * l4_51.toInt + 0))) ≤ l5_87.toInt ∧ l5_87.toInt ≤ (sL (aI (G.2.1 (F a 10)) (10 * l4_51.toInt + 0))) + 1 → 2147483648 - l5_87.toInt < ((N87 : Nat) : Int) → TW E K F G43 H → va_S (xA E) s.heap H locs → lv_has ls 8 [(0, .ref a), (2, .int p1), (3, .int l3_87), (4, .int l4_51), (5, .int l5_87)] → W p l e rm_X11_fresh s m args below meth c H locs 0 0 Q (F0 m 87 ls []) := by
                  intro N87
                  induction N87 with
                  | zero =>
                    intro l3_87 l5_87 H locs ls I87_0 hm87
                    exact absurd hm87 (z_X11_fresh_10 l5_87.toInt (xr l5_87))
                  | succ N87 ih87 =>
                    intro l3_87 l5_87 H locs ls I87_0 hm87 hT hS hl
                    refine lv_iload hx hb dX11_fresh_87 (lv_at hl 4 rfl) ?_
                    refine lv_aload_n hx hb dX11_fresh_89 rfl (lv_at hl 0 rfl) ?_
                    refine lv_iload hx hb dX11_fresh_90 (lv_at hl 3 rfl) ?_
                    refine x_clp (x_runV (b := a) (As := [.int l4_51]) (rest := [.int l5_87]) S (c_X11_lastSubject l E K F G43 H a l4_51 ha (z_X11_fresh_7 l4_51.toInt I51_0 c55)) mv_X11_lastSubject km_X11_183 rfl rfl ⟨Nat.le_of_ble_eq_true rfl, Nat.le_of_ble_eq_true rfl⟩ (rc_13 hK hT ha) hK (fun _ => XPh.blind) (fun U hU hW => XPh.at hK hz hS hT hU hW) rfl hl.1 (Nat.le_of_ble_eq_true rfl) dX11_fresh_92 ⟨Nat.le_of_ble_eq_true rfl, Nat.le_of_ble_eq_true rfl⟩) hS ?_
                    rintro _ _ locs ⟨x92, rfl, t92⟩ hS
                    have t92 : x92.toInt = (sL (aI (G.2.1 (F a 10)) (10 * l4_51.toInt + 0))) := by rw [(show G43.2.1 (F a 10) = G.2.1 (F a 10) from ((hF43.2.1 _ (xn1 (xne_k hk9999f hk9999e (by decide)) xn0)).trans ((hF26.2.1 _ (xn1 (xne_k hk9999f hk9999 (by decide)) (xn1 (xne_k hk9999f hk9999a (by decide)) (xn1 (xne_k hk9999f hk9999b (by decide)) (xn1 (xne_k hk9999f hk9999c (by decide)) (xn1 (xne_k hk9999f hk9999d (by decide)) xn0)))))).trans (ld_c hG2))))] at t92; exact t92
                    refine xi_cgt (tgt := 201) hx hb (rfl : Int32.toInt l5_87 = l5_87.toInt) (t92 : Int32.toInt x92 = (sL (aI (G.2.1 (F a 10)) (10 * l4_51.toInt + 0)))) dX11_fresh_95 (by decide) (fun c95 => ?_) (fun c95 => ?_)
                    · exact J201 l3_87 _ _ _ hT hS (lv_sub hl [0, 1, 2, 3] rfl)
                    · refine lv_iload hx hb dX11_fresh_98 (lv_at hl 3 rfl) ?_
                      refine lv_iload hx hb dX11_fresh_100 (lv_at hl 4 rfl) ?_
                      refine x_clp (x_runS (As := [.int l4_51, .int l5_87]) (rest := []) S (c_X11_placeOf l E K F G43 H l4_51 l5_87 (z_X11_fresh_12 l4_51.toInt l5_87.toInt (aI (G.2.1 (F a 10)) (10 * l4_51.toInt + 0)) (sF (aI (G.2.1 (F a 10)) (10 * l4_51.toInt + 0))) (sL (aI (G.2.1 (F a 10)) (10 * l4_51.toInt + 0))) I51_0 c55 z79a I87_0 c95)) ms_X11_placeOf km_X11_186 rfl rfl ⟨Nat.le_of_ble_eq_true rfl, Nat.le_of_ble_eq_true rfl⟩ hK (fun _ => XPh.blind) (fun U hU hW => XPh.at hK hz hS hT hU hW) rfl hl.1 (Nat.le_of_ble_eq_true rfl) dX11_fresh_102 ⟨Nat.le_of_ble_eq_true rfl, Nat.le_of_ble_eq_true rfl⟩) hS ?_
                      rintro _ _ locs ⟨x102, rfl, t102⟩ hS
                      have t102 : x102.toInt = 199 * l4_51.toInt + l5_87.toInt + 99 := t102
                      refine lv_istore (lv' := [(6, .int x102), (0, .ref a), (2, .int p1), (3, .int l3_87), (4, .int l4_51), (5, .int l5_87)]) hx hb dX11_fresh_105 hl (by decide) rfl (fun ls hl => ?_)
                      refine lv_aload_n hx hb dX11_fresh_107 rfl (lv_at hl 1 rfl) ?_
                      refine gX11_11 S hK hT ha kf_X11_36 dX11_fresh_108 (fun _ _ => ?_)
                      refine lv_iload hx hb dX11_fresh_111 (lv_at hl 0 rfl) ?_
                      refine al_0 S hK hT hk9999c ar_38 (by decide) (by rw [(t102 : Int32.toInt x102 = 199 * l4_51.toInt + l5_87.toInt + 99)]; exact (z_X11_fresh_13 l4_51.toInt l5_87.toInt (aI (G.2.1 (F a 10)) (10 * l4_51.toInt + 0)) (sF (aI (G.2.1 (F a 10)) (10 * l4_51.toInt + 0))) (sL (aI (G.2.1 (F a 10)) (10 * l4_51.toInt + 0))) I51_0 c55 z79a I87_0 c95)) dX11_fresh_113 (fun x113 hv113 o113 => ?_)
                      have hv113 : x113.toInt = (aI (G26.2.1 (F a 11)) (199 * l4_51.toInt + l5_87.toInt + 99)) := hv113.trans (by rw [(t102 : Int32.toInt x102 = 199 * l4_51.toInt + l5_87.toInt + 99), ((hF43.2.1 _ (xn1 (xne_j hj9999c hj9999e (by first | decide | omega)) xn0)) : G43.2.1 (F a 11) = G26.2.1 (F a 11))])
                      refine lv_aload_n hx hb dX11_fresh_114 rfl (lv_at hl 1 rfl) ?_
                      refine gX11_13 S hK hT ha kf_X11_42 dX11_fresh_115 (fun _ _ => ?_)
                      refine lv_iload hx hb dX11_fresh_118 (lv_at hl 0 rfl) ?_
                      refine al_0 S hK hT hk9999d ar_38 (by decide) (by rw [(t102 : Int32.toInt x102 = 199 * l4_51.toInt + l5_87.toInt + 99)]; exact (z_X11_fresh_13 l4_51.toInt l5_87.toInt (aI (G.2.1 (F a 10)) (10 * l4_51.toInt + 0)) (sF (aI (G.2.1 (F a 10)) (10 * l4_51.toInt + 0))) (sL (aI (G.2.1 (F a 10)) (10 * l4_51.toInt + 0))) I51_0 c55 z79a I87_0 c95)) dX11_fresh_120 (fun x120 hv120 o120 => ?_)
                      have hv120 : x120.toInt = (aI (G26.2.1 (F a 13)) (199 * l4_51.toInt + l5_87.toInt + 99)) := hv120.trans (by rw [(t102 : Int32.toInt x102 = 199 * l4_51.toInt + l5_87.toInt + 99), ((hF43.2.1 _ (xn1 (xne_j hj9999d hj9999e (by first | decide | omega)) xn0)) : G43.2.1 (F a 13) = G26.2.1 (F a 13))])
                      have J129 : ∀ (k_129 : Int32) (H : Heap) (locs : List Loc) (ls : Array Slot), TW E K F G43 H → va_S (xA E) s.heap H locs → lv_has ls 8 [(0, .ref a), (2, .int p1), (3, .int l3_87), (4, .int l4_51), (5, .int l5_87), (6, .int x102)] → W p l e rm_X11_fresh s m args below meth c H locs 0 0 Q (F0 m 129 ls [.int k_129]) := by
                        intro k_129 H locs ls hT hS hl
                        refine lv_istore (lv' := [(7, .int k_129), (0, .ref a), (2, .int p1), (3, .int l3_87), (4, .int l4_51), (5, .int l5_87), (6, .int x102)]) hx hb dX11_fresh_129 hl (by decide) rfl (fun ls hl => ?_)
                        refine lv_iload_n hx hb dX11_fresh_131 rfl (lv_at hl 3 rfl) ?_
                        refine lv_iload_n hx hb dX11_fresh_132 rfl (lv_at hl 2 rfl) ?_
                        have J193 : ∀ (k_193 : Int32) (H : Heap) (locs : List Loc) (ls : Array Slot), TW E K F G43 H → va_S (xA E) s.heap H locs → lv_has ls 8 [(0, .ref a), (2, .int p1), (4, .int l4_51), (5, .int l5_87)] → W p l e rm_X11_fresh s m args below meth c H locs 0 0 Q (F0 m 193 ls [.int k_193, .int l3_87]) := by
                          intro k_193 H locs ls hT hS hl
                          refine xi_iadd hx hb (rfl : Int32.toInt l3_87 = l3_87.toInt) (rfl : Int32.toInt k_193 = k_193.toInt) dX11_fresh_193 (fun x193 t193 => ?_)
                          refine lv_istore_n (lv' := [(3, .int x193), (0, .ref a), (2, .int p1), (4, .int l4_51), (5, .int l5_87)]) hx hb dX11_fresh_194 rfl hl (by decide) rfl (fun ls hl => ?_)
                          refine xi_iinc (n := 1) (lv' := fun z9 => [(5, .int z9), (3, .int x193), (0, .ref a), (2, .int p1), (4, .int l4_51)]) (k := 4) hx hb (rfl : Int32.toInt l5_87 = l5_87.toInt) (by decide) dX11_fresh_195 hl rfl (by decide) (fun _ => rfl) (fun x195 ls t195 hl => ?_)
                          have e195 : x195.toInt = (l5_87.toInt + 1) := (z_X11_fresh_15 l5_87.toInt x195.toInt (aI (G.2.1 (F a 10)) (10 * l4_51.toInt + 0)) (sF (aI (G.2.1 (F a 10)) (10 * l4_51.toInt + 0))) (sL (aI (G.2.1 (F a 10)) (10 * l4_51.toInt + 0))) z79a c95 t195 (xr l5_87))
                          have hl : lv_has ls 8 [(5, .int x195), (3, .int x193), (0, .ref a), (2, .int p1), (4, .int l4_51)] := hl
                          refine lv_goto (tgt := 87) hx hb dX11_fresh_198 (by decide) ?_
                          exact ih87 x193 x195 _ _ _ (by rw [(e195 : Int32.toInt x195 = (l5_87.toInt + 1))] <;> exact (z_X11_fresh_16 l5_87.toInt (sF (aI (G.2.1 (F a 10)) (10 * l4_51.toInt + 0))) (sL (aI (G.2.1 (F a 10)) (10 * l4_51.toInt + 0))) I87_0 c95)) (by rw [(e195 : Int32.toInt x195 = (l5_87.toInt + 1))] <;> exact (z_X11_fresh_17 l5_87.toInt N87 hm87)) hT hS (lv_sub hl [2, 3, 1, 4, 0] rfl)
                        refine xi_zne (tgt := 166) hx hb (rfl : Int32.toInt p1 = p1.toInt) dX11_fresh_133 (by decide) (fun c133 => ?_) (fun c133 => ?_)
                        · refine lv_iload hx hb dX11_fresh_166 (lv_at hl 0 rfl) ?_
                          have J192 : ∀ (H : Heap) (locs : List Loc) (ls : Array Slot), TW E K F G43 H → va_S (xA E) s.heap H locs → lv_has ls 8 [(0, .ref a), (2, .int p1), (4, .int l4_51), (5, .int l5_87)] → W p l e rm_X11_fresh s m args below meth c H locs 0 0 Q (F0 m 192 ls [.int l3_87]) := by
                            intro H locs ls hT hS hl
                            refine lv_iconst (v := 0) hx hb dX11_fresh_192 (by decide) ?_
                            exact J193 0 _ _ _ hT hS (lv_sub hl [0, 1, 2, 3] rfl)
                          refine xi_zne (tgt := 192) hx hb (rfl : Int32.toInt k_129 = k_129.toInt) dX11_fresh_168 (by decide) (fun c168 => ?_) (fun c168 => ?_)
                          · exact J192 _ _ _ hT hS (lv_sub hl [1, 2, 4, 5] rfl)
                          · refine lv_aload_n hx hb dX11_fresh_171 rfl (lv_at hl 1 rfl) ?_
                            refine gX11_14 S hK hT ha kf_X11_45 dX11_fresh_172 (fun _ _ => ?_)
                            refine lv_iload hx hb dX11_fresh_175 (lv_at hl 6 rfl) ?_
                            refine al_0 S hK hT hk9999e ar_38 (by decide) (by rw [(t102 : Int32.toInt x102 = 199 * l4_51.toInt + l5_87.toInt + 99)]; exact (z_X11_fresh_13 l4_51.toInt l5_87.toInt (aI (G.2.1 (F a 10)) (10 * l4_51.toInt + 0)) (sF (aI (G.2.1 (F a 10)) (10 * l4_51.toInt + 0))) (sL (aI (G.2.1 (F a 10)) (10 * l4_51.toInt + 0))) I51_0 c55 z79a I87_0 c95)) dX11_fresh_177 (fun x177 hv177 o177 => ?_)
                            have hv177 : x177.toInt = (aI (G43.2.1 (F a 14)) (199 * l4_51.toInt + l5_87.toInt + 99)) := hv177.trans (by rw [(t102 : Int32.toInt x102 = 199 * l4_51.toInt + l5_87.toInt + 99)])
                            refine lv_aload_n hx hb dX11_fresh_178 rfl (lv_at hl 1 rfl) ?_
                            refine gX11_13 S hK hT ha kf_X11_42 dX11_fresh_179 (fun _ _ => ?_)
                            refine lv_iload hx hb dX11_fresh_182 (lv_at hl 6 rfl) ?_
                            refine al_0 S hK hT hk9999d ar_38 (by decide) (by rw [(t102 : Int32.toInt x102 = 199 * l4_51.toInt + l5_87.toInt + 99)]; exact (z_X11_fresh_13 l4_51.toInt l5_87.toInt (aI (G.2.1 (F a 10)) (10 * l4_51.toInt + 0)) (sF (aI (G.2.1 (F a 10)) (10 * l4_51.toInt + 0))) (sL (aI (G.2.1 (F a 10)) (10 * l4_51.toInt + 0))) I51_0 c55 z79a I87_0 c95)) dX11_fresh_184 (fun x184 hv184 o184 => ?_)
                            have hv184 : x184.toInt = (aI (G26.2.1 (F a 13)) (199 * l4_51.toInt + l5_87.toInt + 99)) := hv184.trans (by rw [(t102 : Int32.toInt x102 = 199 * l4_51.toInt + l5_87.toInt + 99), ((hF43.2.1 _ (xn1 (xne_j hj9999d hj9999e (by first | decide | omega)) xn0)) : G43.2.1 (F a 13) = G26.2.1 (F a 13))])
                            refine xi_ceq (tgt := 192) hx hb (hv177 : Int32.toInt x177 = (aI (G43.2.1 (F a 14)) (199 * l4_51.toInt + l5_87.toInt + 99))) (hv184 : Int32.toInt x184 = (aI (G26.2.1 (F a 13)) (199 * l4_51.toInt + l5_87.toInt + 99))) dX11_fresh_185 (by decide) (fun c185 => ?_) (fun c185 => ?_)
                            · exact J192 _ _ _ hT hS (lv_sub hl [1, 2, 4, 5] rfl)
                            · refine lv_iconst (v := 1) hx hb dX11_fresh_188 (by decide) ?_
                              refine lv_goto (tgt := 193) hx hb dX11_fresh_189 (by decide) ?_
                              exact J193 1 _ _ _ hT hS (lv_sub hl [1, 2, 4, 5] rfl)
                        · refine lv_iload hx hb dX11_fresh_136 (lv_at hl 0 rfl) ?_
                          have J162 : ∀ (H : Heap) (locs : List Loc) (ls : Array Slot), TW E K F G43 H → va_S (xA E) s.heap H locs → lv_has ls 8 [(0, .ref a), (2, .int p1), (4, .int l4_51), (5, .int l5_87)] → W p l e rm_X11_fresh s m args below meth c H locs 0 0 Q (F0 m 162 ls [.int l3_87]) := by
                            intro H locs ls hT hS hl
                            refine lv_iconst (v := 0) hx hb dX11_fresh_162 (by decide) ?_
                            refine lv_goto (tgt := 193) hx hb dX11_fresh_163 (by decide) ?_
                            exact J193 0 _ _ _ hT hS (lv_sub hl [0, 1, 2, 3] rfl)
                          refine xi_zeq (tgt := 162) hx hb (rfl : Int32.toInt k_129 = k_129.toInt) dX11_fresh_138 (by decide) (fun c138 => ?_) (fun c138 => ?_)
                          · exact J162 _ _ _ hT hS (lv_sub hl [1, 2, 4, 5] rfl)
                          · refine lv_aload_n hx hb dX11_fresh_141 rfl (lv_at hl 1 rfl) ?_
                            refine gX11_11 S hK hT ha kf_X11_36 dX11_fresh_142 (fun _ _ => ?_)
                            refine lv_iload hx hb dX11_fresh_145 (lv_at hl 6 rfl) ?_
                            refine al_0 S hK hT hk9999c ar_38 (by decide) (by rw [(t102 : Int32.toInt x102 = 199 * l4_51.toInt + l5_87.toInt + 99)]; exact (z_X11_fresh_13 l4_51.toInt l5_87.toInt (aI (G.2.1 (F a 10)) (10 * l4_51.toInt + 0)) (sF (aI (G.2.1 (F a 10)) (10 * l4_51.toInt + 0))) (sL (aI (G.2.1 (F a 10)) (10 * l4_51.toInt + 0))) I51_0 c55 z79a I87_0 c95)) dX11_fresh_147 (fun x147 hv147 o147 => ?_)
                            have hv147 : x147.toInt = (aI (G26.2.1 (F a 11)) (199 * l4_51.toInt + l5_87.toInt + 99)) := hv147.trans (by rw [(t102 : Int32.toInt x102 = 199 * l4_51.toInt + l5_87.toInt + 99), ((hF43.2.1 _ (xn1 (xne_j hj9999c hj9999e (by first | decide | omega)) xn0)) : G43.2.1 (F a 11) = G26.2.1 (F a 11))])
                            refine lv_aload_n hx hb dX11_fresh_148 rfl (lv_at hl 1 rfl) ?_
                            refine gX11_14 S hK hT ha kf_X11_45 dX11_fresh_149 (fun _ _ => ?_)
                            refine lv_iload hx hb dX11_fresh_152 (lv_at hl 6 rfl) ?_
                            refine al_0 S hK hT hk9999e ar_38 (by decide) (by rw [(t102 : Int32.toInt x102 = 199 * l4_51.toInt + l5_87.toInt + 99)]; exact (z_X11_fresh_13 l4_51.toInt l5_87.toInt (aI (G.2.1 (F a 10)) (10 * l4_51.toInt + 0)) (sF (aI (G.2.1 (F a 10)) (10 * l4_51.toInt + 0))) (sL (aI (G.2.1 (F a 10)) (10 * l4_51.toInt + 0))) I51_0 c55 z79a I87_0 c95)) dX11_fresh_154 (fun x154 hv154 o154 => ?_)
                            have hv154 : x154.toInt = (aI (G43.2.1 (F a 14)) (199 * l4_51.toInt + l5_87.toInt + 99)) := hv154.trans (by rw [(t102 : Int32.toInt x102 = 199 * l4_51.toInt + l5_87.toInt + 99)])
                            refine xi_ceq (tgt := 162) hx hb (hv147 : Int32.toInt x147 = (aI (G26.2.1 (F a 11)) (199 * l4_51.toInt + l5_87.toInt + 99))) (hv154 : Int32.toInt x154 = (aI (G43.2.1 (F a 14)) (199 * l4_51.toInt + l5_87.toInt + 99))) dX11_fresh_155 (by decide) (fun c155 => ?_) (fun c155 => ?_)
                            · exact J162 _ _ _ hT hS (lv_sub hl [1, 2, 4, 5] rfl)
                            · refine lv_iconst (v := 1) hx hb dX11_fresh_158 (by decide) ?_
                              refine lv_goto (tgt := 193) hx hb dX11_fresh_159 (by decide) ?_
                              exact J193 1 _ _ _ hT hS (lv_sub hl [1, 2, 4, 5] rfl)
                      refine xi_ceq (tgt := 128) hx hb (hv113 : Int32.toInt x113 = (aI (G26.2.1 (F a 11)) (199 * l4_51.toInt + l5_87.toInt + 99))) (hv120 : Int32.toInt x120 = (aI (G26.2.1 (F a 13)) (199 * l4_51.toInt + l5_87.toInt + 99))) dX11_fresh_121 (by decide) (fun c121 => ?_) (fun c121 => ?_)
                      · refine lv_iconst (v := 0) hx hb dX11_fresh_128 (by decide) ?_
                        exact J129 0 _ _ _ hT hS (lv_sub hl [1, 2, 3, 4, 5, 0] rfl)
                      · refine lv_iconst (v := 1) hx hb dX11_fresh_124 (by decide) ?_
                        refine lv_goto (tgt := 129) hx hb dX11_fresh_125 (by decide) ?_
                        exact J129 1 _ _ _ hT hS (lv_sub hl [1, 2, 3, 4, 5, 0] rfl)
                exact L87 4294967297 l3_51 x82 _ _ _ (by rw [(t82 : Int32.toInt x82 = (sF (aI (G.2.1 (F a 10)) (10 * l4_51.toInt + 0))))] <;> exact (z_X11_fresh_22 (aI (G.2.1 (F a 10)) (10 * l4_51.toInt + 0)) (sF (aI (G.2.1 (F a 10)) (10 * l4_51.toInt + 0))) (sL (aI (G.2.1 (F a 10)) (10 * l4_51.toInt + 0))) z79a)) (by rw [(t82 : Int32.toInt x82 = (sF (aI (G.2.1 (F a 10)) (10 * l4_51.toInt + 0))))] <;> exact (z_X11_fresh_23 (aI (G.2.1 (F a 10)) (10 * l4_51.toInt + 0)) (sF (aI (G.2.1 (F a 10)) (10 * l4_51.toInt + 0))) (sL (aI (G.2.1 (F a 10)) (10 * l4_51.toInt + 0))) z79a)) hT hS (lv_sub hl [1, 2, 3, 4, 0] rfl)
      exact L51 4294967297 0 0 _ _ _ (by decide) (by decide) hT hS (lv_sub hl [2, 4, 1, 0] rfl)
    · refine lv_iconst (v := (-1)) hx hb dX11_fresh_23 (by decide) ?_
      exact x_ri hx hb hr hlk hQ (Nat.le_of_ble_eq_true rfl) (Nat.le_of_ble_eq_true rfl) hS dX11_fresh_24 G2 ⟨_, rfl, (by rw [hG2]; exact XFr.dput XFr.rf (List.mem_of_getElem? (i := 0) rfl))⟩ hT

