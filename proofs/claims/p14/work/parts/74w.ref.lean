theorem z_X11_wouldCut_1 (a0 : Int) (a1 : Int) (a2 : Int) (a3 : Int) (h0 : ¬ (0 ≤ a0 ∧ a0 < 3 ∧ 0 ≤ a1 ∧ a1 < 30) → a3 = -2000) (h1 : (a2 = 1 ∧ a3 ≠ -2000) ∨ (a2 = 0 ∧ a3 = -2000)) (h2 : ¬ (a2 = 0)) : 0 ≤ a0 ∧ a0 < 3 := by omega
theorem z_X11_wouldCut_2 (a0 : Int) (a1 : Int) (a2 : Int) (a3 : Int) (h0 : ¬ (0 ≤ a0 ∧ a0 < 3 ∧ 0 ≤ a1 ∧ a1 < 30) → a3 = -2000) (h1 : (a2 = 1 ∧ a3 ≠ -2000) ∨ (a2 = 0 ∧ a3 = -2000)) (h2 : ¬ (a2 = 0)) : 0 ≤ a1 ∧ a1 < 30 := by omega
theorem z_X11_wouldCut_3 (a0 : Int) (a1 : Int) (h0 : (a0 = 1 ∧ a1 ≠ -2000) ∨ (a0 = 0 ∧ a1 = -2000)) (h1 : ¬ (a0 = 0)) : a1 ≠ -2000 := by omega
theorem z_X11_wouldCut_4 (a0 : Int) (h0 : 0 ≤ a0 ∧ a0 ≤ 360 ∧ a0 % 4 = 0) : ¬ (1000 - a0 < ((0 : Nat) : Int)) := by omega
theorem z_X11_wouldCut_5 (a0 : Int) (h0 : 0 ≤ a0 ∧ a0 ≤ 360 ∧ a0 % 4 = 0) (h1 : ¬ ((360 : Int) ≤ a0)) : 0 ≤ a0 ∧ a0 < ((360 : Nat) : Int) := by omega
theorem z_X11_wouldCut_7 (a0 : Int) (h0 : 1 ≤ a0 ∧ a0 ≤ 4) : ¬ (100 - a0 < ((0 : Nat) : Int)) := by omega
theorem z_X11_wouldCut_8 (a0 : Int) (a1 : Int) (h0 : 0 ≤ a0 ∧ a0 ≤ 360 ∧ a0 % 4 = 0) (h1 : a1 = (a0 + 4) ∨ (a0 + 4) < -2147483648 ∨ 2147483648 ≤ (a0 + 4)) : a1 = (a0 + 4) := by omega
theorem z_X11_wouldCut_9 (a0 : Int) (a1 : Nat) (h0 : 0 ≤ a0 ∧ a0 ≤ 360 ∧ a0 % 4 = 0) (h1 : 1000 - a0 < ((a1 + 1 : Nat) : Int)) (h2 : ¬ ((360 : Int) ≤ a0)) (r0 : -2147483648 ≤ a0 ∧ a0 < 2147483648) : 0 ≤ (a0 + 4) ∧ (a0 + 4) ≤ 360 ∧ (a0 + 4) % 4 = 0 := by omega
theorem z_X11_wouldCut_10 (a0 : Int) (a1 : Nat) (h0 : 1000 - a0 < ((a1 + 1 : Nat) : Int)) : 1000 - (a0 + 4) < ((a1 : Nat) : Int) := by omega
theorem z_X11_wouldCut_13 (a0 : Int) (a1 : Nat) (h0 : 0 ≤ a0 ∧ a0 ≤ 360 ∧ a0 % 4 = 0) (h1 : 1000 - a0 < ((a1 + 1 : Nat) : Int)) (h2 : ¬ ((360 : Int) ≤ a0)) (r0 : -2147483648 ≤ a0 ∧ a0 < 2147483648) : 0 ≤ (a0 + 4) ∧ (a0 + 4) ≤ 360 ∧ (a0 + 4) % 4 = 0 := by omega
theorem z_X11_wouldCut_15 (a0 : Int) (a1 : Int) (a2 : Int) (h0 : 0 ≤ a0 ∧ a0 ≤ 360 ∧ a0 % 4 = 0) (h1 : 1 ≤ a1 ∧ a1 ≤ 4) (h2 : a2 = (a0 + a1) ∨ (a0 + a1) < -2147483648 ∨ 2147483648 ≤ (a0 + a1)) : a2 = (a0 + a1) := by omega
theorem z_X11_wouldCut_16 (a0 : Int) (a1 : Int) (a2 : Nat) (a3 : Nat) (h0 : 0 ≤ a0 ∧ a0 ≤ 360 ∧ a0 % 4 = 0) (h1 : 1000 - a0 < ((a2 + 1 : Nat) : Int)) (h2 : ¬ ((360 : Int) ≤ a0)) (h3 : 1 ≤ a1 ∧ a1 ≤ 4) (h4 : 100 - a1 < ((a3 + 1 : Nat) : Int)) (h5 : ¬ ((4 : Int) ≤ a1)) (r0 : -2147483648 ≤ a0 ∧ a0 < 2147483648) (r1 : -2147483648 ≤ a1 ∧ a1 < 2147483648) : 0 ≤ (a0 + a1) ∧ (a0 + a1) < ((360 : Nat) : Int) := by omega
theorem z_X11_wouldCut_18 (a0 : Int) (a1 : Int) (a2 : Nat) (a3 : Nat) (h0 : 0 ≤ a0 ∧ a0 ≤ 360 ∧ a0 % 4 = 0) (h1 : 1000 - a0 < ((a2 + 1 : Nat) : Int)) (h2 : ¬ ((360 : Int) ≤ a0)) (h3 : 1 ≤ a1 ∧ a1 ≤ 4) (h4 : 100 - a1 < ((a3 + 1 : Nat) : Int)) (h5 : ¬ ((4 : Int) ≤ a1)) (r0 : -2147483648 ≤ a0 ∧ a0 < 2147483648) (r1 : -2147483648 ≤ a1 ∧ a1 < 2147483648) : 0 ≤ (a0 + a1) ∧ (a0 + a1) < ((360 : Nat) : Int) := by omega
theorem z_X11_wouldCut_19 (a0 : Int) (a1 : Int) (h0 : 1 ≤ a0 ∧ a0 ≤ 4) (h1 : a1 = (a0 + 1) ∨ (a0 + 1) < -2147483648 ∨ 2147483648 ≤ (a0 + 1)) : a1 = (a0 + 1) := by omega
theorem z_X11_wouldCut_20 (a0 : Int) (h0 : 1 ≤ a0 ∧ a0 ≤ 4) (h1 : ¬ ((4 : Int) ≤ a0)) : 1 ≤ (a0 + 1) ∧ (a0 + 1) ≤ 4 := by omega
theorem z_X11_wouldCut_21 (a0 : Int) (a1 : Nat) (h0 : 100 - a0 < ((a1 + 1 : Nat) : Int)) : 100 - (a0 + 1) < ((a1 : Nat) : Int) := by omega
abbrev rm_X11_wouldCut : Room := { frames := 8, cells := 0, slots := 0, locals := 187 }
set_option maxHeartbeats 4000000 in
set_option maxRecDepth 100000 in
theorem c_X11_wouldCut (l : Launch) (E : XE) (K : Nat → Nat) (F : Nat → Nat → Nat) (G : XG) (a : Nat) (p0 : Int32) (p1 : Int32) (p2 : Int32) (ha : K a = 13) (hR : RV (G.2.1 (F a 10))) (hM : RM (G.2.1 (F a 1)) (0)) : Met l yX11_wouldCut (xw yX11_wouldCut cX11_wouldCut 8 (some .int)) rm_X11_wouldCut (va_Pc [.ref a, .int p0, .int p1, .int p2] (XP E K F G)) (XQ E (fun v (u : XG) => ∃ r : Int32, v = .int r ∧ XFr [(a, 16), (a, 19), (a, 45), (a, 46), (a, 0)] [F a 15, F a 17, F a 18, F a 11, F a 1, F a 4, F a 12, F a 47, F a 48, F a 49, F a 50] [] G u ∧ (mw (u.2.1 (F a 1)) 0 = mw (G.2.1 (F a 1)) 0) ∧ (RM (u.2.1 (F a 1)) 0)) (fun u H => TW E K F u H)) 0 0 (xA E) := by
  refine x_enter (by decide) (Nat.le_of_ble_eq_true rfl) ?_
  intro p e s m args below meth c Q S hr hlk hnm hQ hP ls hl
  obtain ⟨hz, hK, hT⟩ := hP
  obtain ⟨hx, hb, -, -, -⟩ := id S
  obtain ⟨H, hT, hS, hgo⟩ : ∃ H : Heap, TW E K F G H ∧ va_S (xA E) s.heap H [] ∧ H = s.heap := ⟨_, hT, va_S.rf, rfl⟩
  rw [← hgo]
  have hl : lv_has ls 8 [(0, .ref a), (1, .int p0), (2, .int p1), (3, .int p2)] := hl
  obtain ⟨hk9999, hj9999⟩ := fkX11_15 hT ha
  obtain ⟨hk9999a, hj9999a⟩ := fkX11_17 hT ha
  obtain ⟨hk9999b, hj9999b⟩ := fkX11_18 hT ha
  obtain ⟨hk9999c, hj9999c⟩ := fkX11_11 hT ha
  obtain ⟨hk9999d, hj9999d⟩ := fkX11_1 hT ha
  obtain ⟨hk9999e, hj9999e⟩ := fkX11_4 hT ha
  obtain ⟨hk9999f, hj9999f⟩ := fkX11_12 hT ha
  obtain ⟨hk9999g, hj9999g⟩ := fkX11_47 hT ha
  obtain ⟨hk9999h, hj9999h⟩ := fkX11_48 hT ha
  obtain ⟨hk9999i, hj9999i⟩ := fkX11_49 hT ha
  obtain ⟨hk9999j, hj9999j⟩ := fkX11_50 hT ha
  obtain ⟨hk9999k, hj9999k⟩ := fkX11_10 hT ha
  refine lv_aload_n hx hb dX11_wouldCut_0 rfl (lv_at hl 0 rfl) ?_
  refine lv_iconst (v := 0) hx hb dX11_wouldCut_1 (by decide) ?_
  refine pX11_0 (v := 0) S hK hT hS ha kf_X11_134 dX11_wouldCut_2 (fun H locs hT hS => ?_)
  obtain ⟨G2, hG2⟩ : ∃ GG : XG, GG = dput G a 0 0 := ⟨_, rfl⟩
  rw [← hG2] at hT
  have z5 : ¬ (0 ≤ p0.toInt ∧ p0.toInt < 3 ∧ 0 ≤ p1.toInt ∧ p1.toInt < 30) → (cel (mw (G.2.1 (F a 1)) 0) (p0.toInt) (p1.toInt) 0) = -2000 := fun h9 => cel_out (by omega)
  refine lv_aload_n hx hb dX11_wouldCut_5 rfl (lv_at hl 0 rfl) ?_
  refine lv_iload_n hx hb dX11_wouldCut_6 rfl (lv_at hl 1 rfl) ?_
  refine lv_iload_n hx hb dX11_wouldCut_7 rfl (lv_at hl 2 rfl) ?_
  refine x_clp (x_runV (b := a) (As := [.int p0, .int p1]) (rest := []) S (c_X11_isRow l E K F G2 H a p0 p1 ha (v_X11_wouldCut_8_1 (F := F) a G2 G hM (ld_c hG2))) mv_X11_isRow km_X11_346 rfl rfl ⟨Nat.le_of_ble_eq_true rfl, Nat.le_of_ble_eq_true rfl⟩ (rc_13 hK hT ha) hK (fun _ => XPh.blind) (fun U hU hW => XPh.at hK hz hS hT hU hW) rfl hl.1 (Nat.le_of_ble_eq_true rfl) dX11_wouldCut_8 ⟨Nat.le_of_ble_eq_true rfl, Nat.le_of_ble_eq_true rfl⟩) hS ?_
  rintro _ _ locs ⟨x8, rfl, b8, t8⟩ hS
  have t8 : (x8.toInt = 1 ∧ (cel (mw (G.2.1 (F a 1)) 0) (p0.toInt) (p1.toInt) 0) ≠ -2000) ∨ (x8.toInt = 0 ∧ (cel (mw (G.2.1 (F a 1)) 0) (p0.toInt) (p1.toInt) 0) = -2000) := by rw [(show G2.2.1 (F a 1) = G.2.1 (F a 1) from (ld_c hG2))] at t8; exact t8
  refine xi_zeq (tgt := 26) hx hb (rfl : Int32.toInt x8 = x8.toInt) dX11_wouldCut_11 (by decide) (fun c11 => ?_) (fun c11 => ?_)
  · refine lv_iconst (v := (-1)) hx hb dX11_wouldCut_26 (by decide) ?_
    exact x_ri hx hb hr hlk hQ (Nat.le_of_ble_eq_true rfl) (Nat.le_of_ble_eq_true rfl) hS dX11_wouldCut_27 G2 ⟨_, rfl, (by rw [hG2]; exact XFr.dput XFr.rf (List.mem_of_getElem? (i := 4) rfl)), (v_X11_wouldCut_27_2 (F := F) G2 a G (ld_c hG2)), (v_X11_wouldCut_27_3 (F := F) G a G2 hM (ld_c hG2))⟩ hT
  · refine lv_iload_n hx hb dX11_wouldCut_14 rfl (lv_at hl 3 rfl) ?_
    refine lv_i2l (v := p2.toInt64) hx hb dX11_wouldCut_15 rfl ?_
    refine lv_lconst (v := (0 : Int64)) hx hb dX11_wouldCut_16 (by decide) ?_
    refine lv_ldc2 (v := 2) hx hb S.2.2.2.1 (S.2.2.2.2 _ (List.mem_cons_of_mem _ kc_X11_137)) dX11_wouldCut_17 ?_
    refine x_clp (x_runS (As := [.long p2.toInt64, .long (0 : Int64), .long (2 : Int64)]) (rest := []) S (c_X11_in l E K F G2 H p2.toInt64 p2.toInt (0 : Int64) (0 : Int) (2 : Int64) (2 : Int) (xl_i2l (rfl : Int32.toInt p2 = p2.toInt)) (by decide) (by decide)) ms_X11_in km_X11_139 rfl rfl ⟨Nat.le_of_ble_eq_true rfl, Nat.le_of_ble_eq_true rfl⟩ hK (fun _ => XPh.blind) (fun U hU hW => XPh.at hK hz hS hT hU hW) rfl hl.1 (Nat.le_of_ble_eq_true rfl) dX11_wouldCut_20 ⟨Nat.le_of_ble_eq_true rfl, Nat.le_of_ble_eq_true rfl⟩) hS ?_
    rintro _ _ locs ⟨x20, rfl, b20, t20⟩ hS
    have t20 : (x20.toInt = 1 ∧ (0 : Int) ≤ p2.toInt ∧ p2.toInt ≤ (2 : Int)) ∨ (x20.toInt = 0 ∧ (p2.toInt < (0 : Int) ∨ (2 : Int) < p2.toInt)) := t20
    refine xi_zne (tgt := 28) hx hb (rfl : Int32.toInt x20 = x20.toInt) dX11_wouldCut_23 (by decide) (fun c23 => ?_) (fun c23 => ?_)
    · refine lv_aload_n hx hb dX11_wouldCut_28 rfl (lv_at hl 0 rfl) ?_
      refine x_cv0 (x_runV (b := a) (As := []) (rest := []) S (c_X11_start l E K F G2 a ha (v_X11_wouldCut_29_4 (F := F) a G2 G hR (ld_c hG2)) (v_X11_wouldCut_29_5 (F := F) a G2 G hM (ld_c hG2))) mv_X11_start km_X11_350 rfl rfl ⟨Nat.le_of_ble_eq_true rfl, Nat.le_of_ble_eq_true rfl⟩ (rc_13 hK hT ha) hK (fun _ => XP.blind) (fun U hU hW => XP.at hK hz hS hT hU hW) rfl hl.1 (Nat.le_of_ble_eq_true rfl) dX11_wouldCut_29 ⟨Nat.le_of_ble_eq_true rfl, Nat.le_of_ble_eq_true rfl⟩) hS ?_
      rintro G29 H locs ⟨hF29, oq29, oq29a, oq29b⟩ hT hS
      have oq29 : mw (G29.2.1 (F a 4)) 0 = mw (G.2.1 (F a 1)) 0 := by simp only [(show G2.2.1 (F a 1) = G.2.1 (F a 1) from (ld_c hG2))] at oq29; exact oq29
      have oq29b : LSt (G.2.1 (F a 10)) (G29.2.1 (F a 12)) (mw (G.2.1 (F a 1)) 0) 12 := by simp only [(show G2.2.1 (F a 10) = G.2.1 (F a 10) from (ld_c hG2)), (show G2.2.1 (F a 1) = G.2.1 (F a 1) from (ld_c hG2))] at oq29b; exact oq29b
      refine lv_aload_n hx hb dX11_wouldCut_32 rfl (lv_at hl 0 rfl) ?_
      refine lv_iload_n hx hb dX11_wouldCut_33 rfl (lv_at hl 1 rfl) ?_
      refine lv_iload_n hx hb dX11_wouldCut_34 rfl (lv_at hl 2 rfl) ?_
      refine x_cv0 (x_runV (b := a) (As := [.int p0, .int p1]) (rest := []) S (c_X11_cutAll l E K F G29 a p0 p1 ha (z_X11_wouldCut_1 p0.toInt p1.toInt x8.toInt (cel (mw (G.2.1 (F a 1)) 0) (p0.toInt) (p1.toInt) 0) z5 t8 c11) (z_X11_wouldCut_2 p0.toInt p1.toInt x8.toInt (cel (mw (G.2.1 (F a 1)) 0) (p0.toInt) (p1.toInt) 0) z5 t8 c11) (by rw [(show G29.2.1 (F a 1) = G.2.1 (F a 1) from ((hF29.2.1 _ (xn1 (xne_k hk9999d hk9999e (by decide)) (xn1 (xne_k hk9999d hk9999f (by decide)) xn0))).trans (ld_c hG2)))] <;> exact (z_X11_wouldCut_3 x8.toInt (cel (mw (G.2.1 (F a 1)) 0) (p0.toInt) (p1.toInt) 0) t8 c11)) (v_X11_wouldCut_35_6 (F := F) a G G29 hR ((hF29.2.1 _ (xn1 (xne_k hk9999k hk9999e (by decide)) (xn1 (xne_k hk9999k hk9999f (by decide)) xn0))).trans (ld_c hG2))) (v_X11_wouldCut_35_7 (F := F) a G G29 hM oq29a ((hF29.2.1 _ (xn1 (xne_k hk9999d hk9999e (by decide)) (xn1 (xne_k hk9999d hk9999f (by decide)) xn0))).trans (ld_c hG2)))) mv_X11_cutAll km_X11_370 rfl rfl ⟨Nat.le_of_ble_eq_true rfl, Nat.le_of_ble_eq_true rfl⟩ (rc_13 hK hT ha) hK (fun _ => XP.blind) (fun U hU hW => XP.at hK hz hS hT hU hW) rfl hl.1 (Nat.le_of_ble_eq_true rfl) dX11_wouldCut_35 ⟨Nat.le_of_ble_eq_true rfl, Nat.le_of_ble_eq_true rfl⟩) hS ?_
      rintro G35 H locs ⟨hF35, oq35, oq35a⟩ hT hS
      have oq35 : mw (G35.2.1 (F a 1)) 0 = cfin (refA (G.2.1 (F a 10))) (refT (G.2.1 (F a 10))) (refC (G.2.1 (F a 10))) ([(p0.toInt, p1.toInt, 0, 0)], rfil (mw (G.2.1 (F a 1)) 0) p0.toInt p1.toInt (-2000) 3) := by simp only [(show G29.2.1 (F a 10) = G.2.1 (F a 10) from ((hF29.2.1 _ (xn1 (xne_k hk9999k hk9999e (by decide)) (xn1 (xne_k hk9999k hk9999f (by decide)) xn0))).trans (ld_c hG2))), (show G29.2.1 (F a 1) = G.2.1 (F a 1) from ((hF29.2.1 _ (xn1 (xne_k hk9999d hk9999e (by decide)) (xn1 (xne_k hk9999d hk9999f (by decide)) xn0))).trans (ld_c hG2)))] at oq35; exact oq35
      refine lv_iconst (v := 0) hx hb dX11_wouldCut_38 (by decide) ?_
      refine lv_istore (lv' := [(4, .int 0), (0, .ref a), (1, .int p0), (2, .int p1), (3, .int p2)]) hx hb dX11_wouldCut_39 hl (by decide) rfl (fun ls hl => ?_)
      refine lv_iconst (v := 0) hx hb dX11_wouldCut_41 (by decide) ?_
      refine lv_istore (lv' := [(5, .int 0), (4, .int 0), (0, .ref a), (1, .int p0), (2, .int p1), (3, .int p2)]) hx hb dX11_wouldCut_42 hl (by decide) rfl (fun ls hl => ?_)
      refine lv_iconst (v := 0) hx hb dX11_wouldCut_44 (by decide) ?_
      refine lv_istore (lv' := [(6, .int 0), (5, .int 0), (4, .int 0), (0, .ref a), (1, .int p0), (2, .int p1), (3, .int p2)]) hx hb dX11_wouldCut_45 hl (by decide) rfl (fun ls hl => ?_)
      have L47 : ∀ (N47 : Nat) (l4_47 : Int32) (l5_47 : Int32) (l6_47 : Int32) (H : Heap) (locs : List Loc) (ls : Array Slot), 0 ≤ l6_47.toInt ∧ l6_47.toInt ≤ 360 ∧ l6_47.toInt % 4 = 0 → 1000 - l6_47.toInt < ((N47 : Nat) : Int) → TW E K F G35 H → va_S (xA E) s.heap H locs → lv_has ls 8 [(0, .ref a), (3, .int p2), (4, .int l4_47), (5, .int l5_47), (6, .int l6_47)] → W p l e rm_X11_wouldCut s m args below meth c H locs 0 0 Q (F0 m 47 ls []) := by
        intro N47
        induction N47 with
        | zero =>
          intro l4_47 l5_47 l6_47 H locs ls I47_0 hm47
          exact absurd hm47 (z_X11_wouldCut_4 l6_47.toInt I47_0)
        | succ N47 ih47 =>
          intro l4_47 l5_47 l6_47 H locs ls I47_0 hm47 hT hS hl
          refine lv_iload hx hb dX11_wouldCut_47 (lv_at hl 4 rfl) ?_
          refine lv_sipush (v := 360) hx hb dX11_wouldCut_49 (by decide) ?_
          refine xi_cge (tgt := 140) hx hb (rfl : Int32.toInt l6_47 = l6_47.toInt) ((by decide) : Int32.toInt 360 = (360 : Int)) dX11_wouldCut_52 (by decide) (fun c52 => ?_) (fun c52 => ?_)
          · refine lv_aload_n hx hb dX11_wouldCut_140 rfl (lv_at hl 0 rfl) ?_
            refine x_cl0 (x_runV (b := a) (As := []) (rest := []) S (c_X11_wouldTell l E K F G35 a (mw (G.2.1 (F a 1)) 0) ha (v_X11_wouldCut_141_8 (F := F) a G G35 hR ((hF35.2.1 _ (xn1 (xne_k hk9999k hk9999g (by decide)) (xn1 (xne_k hk9999k hk9999h (by decide)) (xn1 (xne_k hk9999k hk9999i (by decide)) (xn1 (xne_k hk9999k hk9999j (by decide)) (xn1 (xne_k hk9999k hk9999d (by decide)) xn0)))))).trans ((hF29.2.1 _ (xn1 (xne_k hk9999k hk9999e (by decide)) (xn1 (xne_k hk9999k hk9999f (by decide)) xn0))).trans (ld_c hG2)))) (v_X11_wouldCut_141_9 (F := F) G35 a oq35a) (v_X11_wouldCut_141_10 (F := F) G29 a G35 oq29a (hF35.2.1 _ (xn1 (xne_k hk9999e hk9999g (by decide)) (xn1 (xne_k hk9999e hk9999h (by decide)) (xn1 (xne_k hk9999e hk9999i (by decide)) (xn1 (xne_k hk9999e hk9999j (by decide)) (xn1 (xne_k hk9999e hk9999d (by decide)) xn0))))))) (v_X11_wouldCut_141_11 (F := F) G a G29 G35 oq29b ((hF35.2.1 _ (xn1 (xne_k hk9999k hk9999g (by decide)) (xn1 (xne_k hk9999k hk9999h (by decide)) (xn1 (xne_k hk9999k hk9999i (by decide)) (xn1 (xne_k hk9999k hk9999j (by decide)) (xn1 (xne_k hk9999k hk9999d (by decide)) xn0)))))).trans ((hF29.2.1 _ (xn1 (xne_k hk9999k hk9999e (by decide)) (xn1 (xne_k hk9999k hk9999f (by decide)) xn0))).trans (ld_c hG2))) (hF35.2.1 _ (xn1 (xne_k hk9999f hk9999g (by decide)) (xn1 (xne_k hk9999f hk9999h (by decide)) (xn1 (xne_k hk9999f hk9999i (by decide)) (xn1 (xne_k hk9999f hk9999j (by decide)) (xn1 (xne_k hk9999f hk9999d (by decide)) xn0)))))))) mv_X11_wouldTell km_X11_389 rfl rfl ⟨Nat.le_of_ble_eq_true rfl, Nat.le_of_ble_eq_true rfl⟩ (rc_13 hK hT ha) hK (fun _ => XP.blind) (fun U hU hW => XP.at hK hz hS hT hU hW) rfl hl.1 (Nat.le_of_ble_eq_true rfl) dX11_wouldCut_141 ⟨Nat.le_of_ble_eq_true rfl, Nat.le_of_ble_eq_true rfl⟩) hS ?_
            rintro _ G141 H locs ⟨x141, rfl, hF141, oq141, oq141a, oq141b⟩ hT hS
            have oq141 : AnsM ((G.1 a 6).toInt) x141.toInt (G.2.1 (F a 10)) (mw (G.2.1 (F a 1)) 0) (mw (G35.2.1 (F a 1)) 0) := by simp only [(show G35.1 a 6 = G.1 a 6 from ((hF35.1 _ _ xn0).trans ((hF29.1 _ _ xn0).trans (ld_j hG2 (by decide))))), (show G35.2.1 (F a 10) = G.2.1 (F a 10) from ((hF35.2.1 _ (xn1 (xne_k hk9999k hk9999g (by decide)) (xn1 (xne_k hk9999k hk9999h (by decide)) (xn1 (xne_k hk9999k hk9999i (by decide)) (xn1 (xne_k hk9999k hk9999j (by decide)) (xn1 (xne_k hk9999k hk9999d (by decide)) xn0)))))).trans ((hF29.2.1 _ (xn1 (xne_k hk9999k hk9999e (by decide)) (xn1 (xne_k hk9999k hk9999f (by decide)) xn0))).trans (ld_c hG2))))] at oq141; exact oq141
            have oq141a : mw (G141.2.1 (F a 1)) 0 = mw (G29.2.1 (F a 4)) 0 := by simp only [(show G35.2.1 (F a 4) = G29.2.1 (F a 4) from (hF35.2.1 _ (xn1 (xne_k hk9999e hk9999g (by decide)) (xn1 (xne_k hk9999e hk9999h (by decide)) (xn1 (xne_k hk9999e hk9999i (by decide)) (xn1 (xne_k hk9999e hk9999j (by decide)) (xn1 (xne_k hk9999e hk9999d (by decide)) xn0)))))))] at oq141a; exact oq141a
            refine lv_istore (lv' := [(6, .int x141), (0, .ref a), (3, .int p2), (4, .int l4_47), (5, .int l5_47)]) hx hb dX11_wouldCut_144 hl (by decide) rfl (fun ls hl => ?_)
            refine lv_iload_n hx hb dX11_wouldCut_146 rfl (lv_at hl 2 rfl) ?_
            refine xi_zne (tgt := 155) hx hb (rfl : Int32.toInt p2 = p2.toInt) dX11_wouldCut_147 (by decide) (fun c147 => ?_) (fun c147 => ?_)
            · refine lv_iload_n hx hb dX11_wouldCut_155 rfl (lv_at hl 2 rfl) ?_
              refine lv_iconst (v := 1) hx hb dX11_wouldCut_156 (by decide) ?_
              refine xi_cne (tgt := 165) hx hb (rfl : Int32.toInt p2 = p2.toInt) ((by decide) : Int32.toInt 1 = (1 : Int)) dX11_wouldCut_157 (by decide) (fun c157 => ?_) (fun c157 => ?_)
              · refine lv_iload hx hb dX11_wouldCut_165 (lv_at hl 0 rfl) ?_
                exact x_ri hx hb hr hlk hQ (Nat.le_of_ble_eq_true rfl) (Nat.le_of_ble_eq_true rfl) hS dX11_wouldCut_167 G141 ⟨_, rfl, (XFr.call (XFr.call (XFr.call (by rw [hG2]; exact XFr.dput XFr.rf (List.mem_of_getElem? (i := 4) rfl)) hF29 xm0 (xm1 5 rfl (xm1 6 rfl xm0)) xm0) hF35 xm0 (xm1 7 rfl (xm1 8 rfl (xm1 9 rfl (xm1 10 rfl (xm1 4 rfl xm0))))) xm0) hF141 (xm1 0 rfl (xm1 1 rfl (xm1 2 rfl (xm1 3 rfl xm0)))) (xm1 0 rfl (xm1 1 rfl (xm1 2 rfl (xm1 3 rfl (xm1 4 rfl xm0))))) xm0), (v_X11_wouldCut_167_12 (F := F) G29 a G G141 oq29 oq141a), (v_X11_wouldCut_167_13 (F := F) G141 a oq141b)⟩ hT
              · refine lv_iload hx hb dX11_wouldCut_160 (lv_at hl 4 rfl) ?_
                refine lv_goto (tgt := 167) hx hb dX11_wouldCut_162 (by decide) ?_
                exact x_ri hx hb hr hlk hQ (Nat.le_of_ble_eq_true rfl) (Nat.le_of_ble_eq_true rfl) hS dX11_wouldCut_167 G141 ⟨_, rfl, (XFr.call (XFr.call (XFr.call (by rw [hG2]; exact XFr.dput XFr.rf (List.mem_of_getElem? (i := 4) rfl)) hF29 xm0 (xm1 5 rfl (xm1 6 rfl xm0)) xm0) hF35 xm0 (xm1 7 rfl (xm1 8 rfl (xm1 9 rfl (xm1 10 rfl (xm1 4 rfl xm0))))) xm0) hF141 (xm1 0 rfl (xm1 1 rfl (xm1 2 rfl (xm1 3 rfl xm0)))) (xm1 0 rfl (xm1 1 rfl (xm1 2 rfl (xm1 3 rfl (xm1 4 rfl xm0))))) xm0), (v_X11_wouldCut_167_14 (F := F) G29 a G G141 oq29 oq141a), (v_X11_wouldCut_167_15 (F := F) G141 a oq141b)⟩ hT
            · refine lv_iload hx hb dX11_wouldCut_150 (lv_at hl 3 rfl) ?_
              refine lv_goto (tgt := 167) hx hb dX11_wouldCut_152 (by decide) ?_
              exact x_ri hx hb hr hlk hQ (Nat.le_of_ble_eq_true rfl) (Nat.le_of_ble_eq_true rfl) hS dX11_wouldCut_167 G141 ⟨_, rfl, (XFr.call (XFr.call (XFr.call (by rw [hG2]; exact XFr.dput XFr.rf (List.mem_of_getElem? (i := 4) rfl)) hF29 xm0 (xm1 5 rfl (xm1 6 rfl xm0)) xm0) hF35 xm0 (xm1 7 rfl (xm1 8 rfl (xm1 9 rfl (xm1 10 rfl (xm1 4 rfl xm0))))) xm0) hF141 (xm1 0 rfl (xm1 1 rfl (xm1 2 rfl (xm1 3 rfl xm0)))) (xm1 0 rfl (xm1 1 rfl (xm1 2 rfl (xm1 3 rfl (xm1 4 rfl xm0))))) xm0), (v_X11_wouldCut_167_16 (F := F) G29 a G G141 oq29 oq141a), (v_X11_wouldCut_167_17 (F := F) G141 a oq141b)⟩ hT
          · refine lv_iload hx hb dX11_wouldCut_55 (lv_at hl 2 rfl) ?_
            refine lv_aload_n hx hb dX11_wouldCut_57 rfl (lv_at hl 0 rfl) ?_
            refine gX11_4 S hK hT ha kf_X11_21 dX11_wouldCut_58 (fun _ _ => ?_)
            refine lv_iload hx hb dX11_wouldCut_61 (lv_at hl 4 rfl) ?_
            refine al_0 S hK hT hk9999e ar_31 (by decide) (z_X11_wouldCut_5 l6_47.toInt I47_0 c52) dX11_wouldCut_63 (fun x63 hv63 o63 => ?_)
            have hv63 : x63.toInt = (aI (G29.2.1 (F a 4)) (l6_47.toInt)) := hv63.trans (by rw [(rfl : Int32.toInt l6_47 = l6_47.toInt), ((hF35.2.1 _ (xn1 (xne_k hk9999e hk9999g (by decide)) (xn1 (xne_k hk9999e hk9999h (by decide)) (xn1 (xne_k hk9999e hk9999i (by decide)) (xn1 (xne_k hk9999e hk9999j (by decide)) (xn1 (xne_k hk9999e hk9999d (by decide)) xn0)))))) : G35.2.1 (F a 4) = G29.2.1 (F a 4))])
            refine lv_aload_n hx hb dX11_wouldCut_64 rfl (lv_at hl 0 rfl) ?_
            refine gX11_1 S hK hT ha kf_X11_9 dX11_wouldCut_65 (fun _ _ => ?_)
            refine lv_iload hx hb dX11_wouldCut_68 (lv_at hl 4 rfl) ?_
            refine al_0 S hK hT hk9999d ar_30 (by decide) (z_X11_wouldCut_5 l6_47.toInt I47_0 c52) dX11_wouldCut_70 (fun x70 hv70 o70 => ?_)
            have hv70 : x70.toInt = (aI (G35.2.1 (F a 1)) (l6_47.toInt)) := hv70.trans (by rw [(rfl : Int32.toInt l6_47 = l6_47.toInt)])
            refine xi_isub hx hb (hv63 : Int32.toInt x63 = (aI (G29.2.1 (F a 4)) (l6_47.toInt))) (hv70 : Int32.toInt x70 = (aI (G35.2.1 (F a 1)) (l6_47.toInt))) dX11_wouldCut_71 (fun x71 t71 => ?_)
            refine xi_iadd hx hb (rfl : Int32.toInt l4_47 = l4_47.toInt) (rfl : Int32.toInt x71 = x71.toInt) dX11_wouldCut_72 (fun x72 t72 => ?_)
            refine lv_istore (lv' := [(4, .int x72), (0, .ref a), (3, .int p2), (5, .int l5_47), (6, .int l6_47)]) hx hb dX11_wouldCut_73 hl (by decide) rfl (fun ls hl => ?_)
            refine lv_iconst (v := 1) hx hb dX11_wouldCut_75 (by decide) ?_
            refine lv_istore (lv' := [(7, .int 1), (4, .int x72), (0, .ref a), (3, .int p2), (5, .int l5_47), (6, .int l6_47)]) hx hb dX11_wouldCut_76 hl (by decide) rfl (fun ls hl => ?_)
            have L78 : ∀ (N78 : Nat) (l5_78 : Int32) (l7_78 : Int32) (H : Heap) (locs : List Loc) (ls : Array Slot), 1 ≤ l7_78.toInt ∧ l7_78.toInt ≤ 4 → 100 - l7_78.toInt < ((N78 : Nat) : Int) → TW E K F G35 H → va_S (xA E) s.heap H locs → lv_has ls 8 [(0, .ref a), (3, .int p2), (4, .int x72), (5, .int l5_78), (6, .int l6_47), (7, .int l7_78)] → W p l e rm_X11_wouldCut s m args below meth c H locs 0 0 Q (F0 m 78 ls []) := by
              intro N78
              induction N78 with
              | zero =>
                intro l5_78 l7_78 H locs ls I78_0 hm78
                exact absurd hm78 (z_X11_wouldCut_7 l7_78.toInt I78_0)
              | succ N78 ih78 =>
                intro l5_78 l7_78 H locs ls I78_0 hm78 hT hS hl
                refine lv_iload hx hb dX11_wouldCut_78 (lv_at hl 5 rfl) ?_
                refine lv_iconst (v := 4) hx hb dX11_wouldCut_80 (by decide) ?_
                refine xi_cge (tgt := 134) hx hb (rfl : Int32.toInt l7_78 = l7_78.toInt) ((by decide) : Int32.toInt 4 = (4 : Int)) dX11_wouldCut_81 (by decide) (fun c81 => ?_) (fun c81 => ?_)
                · refine xi_iinc (n := 4) (lv' := fun z9 => [(6, .int z9), (0, .ref a), (3, .int p2), (4, .int x72), (5, .int l5_78), (7, .int l7_78)]) (k := 4) hx hb (rfl : Int32.toInt l6_47 = l6_47.toInt) (by decide) dX11_wouldCut_134 hl rfl (by decide) (fun _ => rfl) (fun x134 ls t134 hl => ?_)
                  have e134 : x134.toInt = (l6_47.toInt + 4) := (z_X11_wouldCut_8 l6_47.toInt x134.toInt I47_0 t134)
                  have hl : lv_has ls 8 [(6, .int x134), (0, .ref a), (3, .int p2), (4, .int x72), (5, .int l5_78), (7, .int l7_78)] := hl
                  refine lv_goto (tgt := 47) hx hb dX11_wouldCut_137 (by decide) ?_
                  exact ih47 x72 l5_78 x134 _ _ _ (by rw [(e134 : Int32.toInt x134 = (l6_47.toInt + 4))] <;> exact (z_X11_wouldCut_9 l6_47.toInt N47 I47_0 hm47 c52 (xr l6_47))) (by rw [(e134 : Int32.toInt x134 = (l6_47.toInt + 4))] <;> exact (z_X11_wouldCut_10 l6_47.toInt N47 hm47)) hT hS (lv_sub hl [1, 2, 3, 4, 0] rfl)
                · refine lv_aload_n hx hb dX11_wouldCut_84 rfl (lv_at hl 0 rfl) ?_
                  refine gX11_1 S hK hT ha kf_X11_9 dX11_wouldCut_85 (fun _ _ => ?_)
                  refine lv_iload hx hb dX11_wouldCut_88 (lv_at hl 4 rfl) ?_
                  refine al_0 S hK hT hk9999d ar_30 (by decide) (z_X11_wouldCut_5 l6_47.toInt I47_0 c52) dX11_wouldCut_90 (fun x90 hv90 o90 => ?_)
                  have hv90 : x90.toInt = (aI (G35.2.1 (F a 1)) (l6_47.toInt)) := hv90.trans (by rw [(rfl : Int32.toInt l6_47 = l6_47.toInt)])
                  refine lv_iconst (v := 1) hx hb dX11_wouldCut_91 (by decide) ?_
                  refine xi_cne (tgt := 134) hx hb (hv90 : Int32.toInt x90 = (aI (G35.2.1 (F a 1)) (l6_47.toInt))) ((by decide) : Int32.toInt 1 = (1 : Int)) dX11_wouldCut_92 (by decide) (fun c92 => ?_) (fun c92 => ?_)
                  · refine xi_iinc (n := 4) (lv' := fun z9 => [(6, .int z9), (0, .ref a), (3, .int p2), (4, .int x72), (5, .int l5_78), (7, .int l7_78)]) (k := 4) hx hb (rfl : Int32.toInt l6_47 = l6_47.toInt) (by decide) dX11_wouldCut_134 hl rfl (by decide) (fun _ => rfl) (fun x134 ls t134 hl => ?_)
                    have e134 : x134.toInt = (l6_47.toInt + 4) := (z_X11_wouldCut_8 l6_47.toInt x134.toInt I47_0 t134)
                    have hl : lv_has ls 8 [(6, .int x134), (0, .ref a), (3, .int p2), (4, .int x72), (5, .int l5_78), (7, .int l7_78)] := hl
                    refine lv_goto (tgt := 47) hx hb dX11_wouldCut_137 (by decide) ?_
                    exact ih47 x72 l5_78 x134 _ _ _ (by rw [(e134 : Int32.toInt x134 = (l6_47.toInt + 4))] <;> exact (z_X11_wouldCut_13 l6_47.toInt N47 I47_0 hm47 c52 (xr l6_47))) (by rw [(e134 : Int32.toInt x134 = (l6_47.toInt + 4))] <;> exact (z_X11_wouldCut_10 l6_47.toInt N47 hm47)) hT hS (lv_sub hl [1, 2, 3, 4, 0] rfl)
                  · refine lv_iload hx hb dX11_wouldCut_95 (lv_at hl 3 rfl) ?_
                    refine lv_aload_n hx hb dX11_wouldCut_97 rfl (lv_at hl 0 rfl) ?_
                    refine gX11_4 S hK hT ha kf_X11_21 dX11_wouldCut_98 (fun _ _ => ?_)
                    refine lv_iload hx hb dX11_wouldCut_101 (lv_at hl 4 rfl) ?_
                    refine lv_iload hx hb dX11_wouldCut_103 (lv_at hl 5 rfl) ?_
                    refine xi_iadd hx hb (rfl : Int32.toInt l6_47 = l6_47.toInt) (rfl : Int32.toInt l7_78 = l7_78.toInt) dX11_wouldCut_105 (fun x105 t105 => ?_)
                    have e105 : x105.toInt = (l6_47.toInt + l7_78.toInt) := (z_X11_wouldCut_15 l6_47.toInt l7_78.toInt x105.toInt I47_0 I78_0 t105)
                    refine al_0 S hK hT hk9999e ar_31 (by decide) (by rw [(e105 : Int32.toInt x105 = (l6_47.toInt + l7_78.toInt))]; exact (z_X11_wouldCut_16 l6_47.toInt l7_78.toInt N47 N78 I47_0 hm47 c52 I78_0 hm78 c81 (xr l6_47) (xr l7_78))) dX11_wouldCut_106 (fun x106 hv106 o106 => ?_)
                    have hv106 : x106.toInt = (aI (G29.2.1 (F a 4)) (l6_47.toInt + l7_78.toInt)) := hv106.trans (by rw [(e105 : Int32.toInt x105 = (l6_47.toInt + l7_78.toInt)), ((hF35.2.1 _ (xn1 (xne_k hk9999e hk9999g (by decide)) (xn1 (xne_k hk9999e hk9999h (by decide)) (xn1 (xne_k hk9999e hk9999i (by decide)) (xn1 (xne_k hk9999e hk9999j (by decide)) (xn1 (xne_k hk9999e hk9999d (by decide)) xn0)))))) : G35.2.1 (F a 4) = G29.2.1 (F a 4))])
                    refine lv_aload_n hx hb dX11_wouldCut_107 rfl (lv_at hl 0 rfl) ?_
                    refine gX11_1 S hK hT ha kf_X11_9 dX11_wouldCut_108 (fun _ _ => ?_)
                    refine lv_iload hx hb dX11_wouldCut_111 (lv_at hl 4 rfl) ?_
                    refine lv_iload hx hb dX11_wouldCut_113 (lv_at hl 5 rfl) ?_
                    refine xi_iadd hx hb (rfl : Int32.toInt l6_47 = l6_47.toInt) (rfl : Int32.toInt l7_78 = l7_78.toInt) dX11_wouldCut_115 (fun x115 t115 => ?_)
                    have e115 : x115.toInt = (l6_47.toInt + l7_78.toInt) := (z_X11_wouldCut_15 l6_47.toInt l7_78.toInt x115.toInt I47_0 I78_0 t115)
                    refine al_0 S hK hT hk9999d ar_30 (by decide) (by rw [(e115 : Int32.toInt x115 = (l6_47.toInt + l7_78.toInt))]; exact (z_X11_wouldCut_18 l6_47.toInt l7_78.toInt N47 N78 I47_0 hm47 c52 I78_0 hm78 c81 (xr l6_47) (xr l7_78))) dX11_wouldCut_116 (fun x116 hv116 o116 => ?_)
                    have hv116 : x116.toInt = (aI (G35.2.1 (F a 1)) (l6_47.toInt + l7_78.toInt)) := hv116.trans (by rw [(e115 : Int32.toInt x115 = (l6_47.toInt + l7_78.toInt))])
                    refine xi_ceq (tgt := 124) hx hb (hv106 : Int32.toInt x106 = (aI (G29.2.1 (F a 4)) (l6_47.toInt + l7_78.toInt))) (hv116 : Int32.toInt x116 = (aI (G35.2.1 (F a 1)) (l6_47.toInt + l7_78.toInt))) dX11_wouldCut_117 (by decide) (fun c117 => ?_) (fun c117 => ?_)
                    · refine lv_iconst (v := 0) hx hb dX11_wouldCut_124 (by decide) ?_
                      refine xi_iadd hx hb (rfl : Int32.toInt l5_78 = l5_78.toInt) ((by decide) : Int32.toInt 0 = (0 : Int)) dX11_wouldCut_125 (fun x125 t125 => ?_)
                      refine lv_istore (lv' := [(5, .int x125), (0, .ref a), (3, .int p2), (4, .int x72), (6, .int l6_47), (7, .int l7_78)]) hx hb dX11_wouldCut_126 hl (by decide) rfl (fun ls hl => ?_)
                      refine xi_iinc (n := 1) (lv' := fun z9 => [(7, .int z9), (5, .int x125), (0, .ref a), (3, .int p2), (4, .int x72), (6, .int l6_47)]) (k := 5) hx hb (rfl : Int32.toInt l7_78 = l7_78.toInt) (by decide) dX11_wouldCut_128 hl rfl (by decide) (fun _ => rfl) (fun x128 ls t128 hl => ?_)
                      have e128 : x128.toInt = (l7_78.toInt + 1) := (z_X11_wouldCut_19 l7_78.toInt x128.toInt I78_0 t128)
                      have hl : lv_has ls 8 [(7, .int x128), (5, .int x125), (0, .ref a), (3, .int p2), (4, .int x72), (6, .int l6_47)] := hl
                      refine lv_goto (tgt := 78) hx hb dX11_wouldCut_131 (by decide) ?_
                      exact ih78 x125 x128 _ _ _ (by rw [(e128 : Int32.toInt x128 = (l7_78.toInt + 1))] <;> exact (z_X11_wouldCut_20 l7_78.toInt I78_0 c81)) (by rw [(e128 : Int32.toInt x128 = (l7_78.toInt + 1))] <;> exact (z_X11_wouldCut_21 l7_78.toInt N78 hm78)) hT hS (lv_sub hl [2, 3, 4, 1, 5, 0] rfl)
                    · refine lv_iconst (v := 1) hx hb dX11_wouldCut_120 (by decide) ?_
                      refine lv_goto (tgt := 125) hx hb dX11_wouldCut_121 (by decide) ?_
                      refine xi_iadd hx hb (rfl : Int32.toInt l5_78 = l5_78.toInt) ((by decide) : Int32.toInt 1 = (1 : Int)) dX11_wouldCut_125 (fun x125 t125 => ?_)
                      refine lv_istore (lv' := [(5, .int x125), (0, .ref a), (3, .int p2), (4, .int x72), (6, .int l6_47), (7, .int l7_78)]) hx hb dX11_wouldCut_126 hl (by decide) rfl (fun ls hl => ?_)
                      refine xi_iinc (n := 1) (lv' := fun z9 => [(7, .int z9), (5, .int x125), (0, .ref a), (3, .int p2), (4, .int x72), (6, .int l6_47)]) (k := 5) hx hb (rfl : Int32.toInt l7_78 = l7_78.toInt) (by decide) dX11_wouldCut_128 hl rfl (by decide) (fun _ => rfl) (fun x128 ls t128 hl => ?_)
                      have e128 : x128.toInt = (l7_78.toInt + 1) := (z_X11_wouldCut_19 l7_78.toInt x128.toInt I78_0 t128)
                      have hl : lv_has ls 8 [(7, .int x128), (5, .int x125), (0, .ref a), (3, .int p2), (4, .int x72), (6, .int l6_47)] := hl
                      refine lv_goto (tgt := 78) hx hb dX11_wouldCut_131 (by decide) ?_
                      exact ih78 x125 x128 _ _ _ (by rw [(e128 : Int32.toInt x128 = (l7_78.toInt + 1))] <;> exact (z_X11_wouldCut_20 l7_78.toInt I78_0 c81)) (by rw [(e128 : Int32.toInt x128 = (l7_78.toInt + 1))] <;> exact (z_X11_wouldCut_21 l7_78.toInt N78 hm78)) hT hS (lv_sub hl [2, 3, 4, 1, 5, 0] rfl)
            exact L78 4294967297 l5_47 1 _ _ _ (by decide) (by decide) hT hS (lv_sub hl [2, 3, 1, 4, 5, 0] rfl)
      exact L47 4294967297 0 0 0 _ _ _ (by decide) (by decide) hT hS (lv_sub hl [3, 6, 2, 1, 0] rfl)
    · refine lv_iconst (v := (-1)) hx hb dX11_wouldCut_26 (by decide) ?_
      exact x_ri hx hb hr hlk hQ (Nat.le_of_ble_eq_true rfl) (Nat.le_of_ble_eq_true rfl) hS dX11_wouldCut_27 G2 ⟨_, rfl, (by rw [hG2]; exact XFr.dput XFr.rf (List.mem_of_getElem? (i := 4) rfl)), (v_X11_wouldCut_27_18 (F := F) G2 a G (ld_c hG2)), (v_X11_wouldCut_27_19 (F := F) G a G2 hM (ld_c hG2))⟩ hT

