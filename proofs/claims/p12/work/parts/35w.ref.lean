abbrev rm_X11_look : Room := { frames := 6, cells := 0, slots := 0, locals := 146 }
set_option maxHeartbeats 4000000 in
set_option maxRecDepth 100000 in
theorem c_X11_look (l : Launch) (E : XE) (K : Nat → Nat) (F : Nat → Nat → Nat) (G : XG) (a : Nat) (r1 : Int → Int) (ha : K a = 13) (hR : RV (G.2.1 (F a 10))) (hM : RM (G.2.1 (F a 1)) (0)) (h1 : LSt (G.2.1 (F a 10)) (G.2.1 (F a 12)) r1 12) : Met l yX11_look (xw yX11_look cX11_look 1 (some .int)) rm_X11_look (va_Pc [.ref a] (XP E K F G)) (XQ E (fun v (u : XG) => ∃ r : Int32, v = .int r ∧ XFr [(a, 16), (a, 19), (a, 45), (a, 46)] [F a 15, F a 17, F a 18, F a 11] [] G u ∧ (((u.1 a 45).toInt) = (((fuO (G.2.1 (F a 10)) r1 (mw (G.2.1 (F a 1)) 0) 2).length : Nat) : Int)) ∧ (pL u F a = fuO (G.2.1 (F a 10)) r1 (mw (G.2.1 (F a 1)) 0) 0) ∧ (r.toInt = ffP (G.2.1 (F a 10)) (mw (G.2.1 (F a 1)) 0) (fuO (G.2.1 (F a 10)) r1 (mw (G.2.1 (F a 1)) 0) 0)) ∧ (((u.1 a 46).toInt) = r.toInt) ∧ (LSt (G.2.1 (F a 10)) (u.2.1 (F a 11)) (mw (G.2.1 (F a 1)) 0) 12) ∧ (0 ≤ ((u.1 a 19).toInt) ∧ ((u.1 a 19).toInt) ≤ 2388 ∧ -1 ≤ r.toInt ∧ r.toInt < ((u.1 a 19).toInt))) (fun u H => TW E K F u H)) 0 0 (xA E) := by
  refine x_enter (by decide) (Nat.le_of_ble_eq_true rfl) ?_
  intro p e s m args below meth c Q S hr hlk hnm hQ hP ls hl
  obtain ⟨hz, hK, hT⟩ := hP
  obtain ⟨hx, hb, -, -, -⟩ := id S
  obtain ⟨H, hT, hS, hgo⟩ : ∃ H : Heap, TW E K F G H ∧ va_S (xA E) s.heap H [] ∧ H = s.heap := ⟨_, hT, va_S.rf, rfl⟩
  rw [← hgo]
  have hl : lv_has ls 1 [(0, .ref a)] := hl
  obtain ⟨hk9999, hj9999⟩ := fkX11_15 hT ha
  obtain ⟨hk9999a, hj9999a⟩ := fkX11_17 hT ha
  obtain ⟨hk9999b, hj9999b⟩ := fkX11_18 hT ha
  obtain ⟨hk9999c, hj9999c⟩ := fkX11_11 hT ha
  obtain ⟨hk9999d, hj9999d⟩ := fkX11_10 hT ha
  obtain ⟨hk9999e, hj9999e⟩ := fkX11_1 hT ha
  obtain ⟨hk9999f, hj9999f⟩ := fkX11_12 hT ha
  refine lv_aload_n hx hb dX11_look_0 rfl (lv_at hl 0 rfl) ?_
  refine lv_aload_n hx hb dX11_look_1 rfl (lv_at hl 0 rfl) ?_
  refine gX11_11 S hK hT ha kf_X11_36 dX11_look_2 (fun _ _ => ?_)
  refine lv_aload_n hx hb dX11_look_5 rfl (lv_at hl 0 rfl) ?_
  refine gX11_1 S hK hT ha kf_X11_9 dX11_look_6 (fun _ _ => ?_)
  refine lv_iconst (v := 0) hx hb dX11_look_9 (by decide) ?_
  refine x_cv0 (x_runV (b := a) (As := [.ref (F a 11), .ref (F a 1), .int 0]) (rest := []) S (c_X11_layStates l E K F G a (F a 11) (F a 1) 0 ha hk9999c (XO.a hk9999e (by decide)) (v_X11_look_10_1 (F := F) a G hR) (v_X11_look_10_2 (K := K) (F := F) a G r1 ha hk9999 hj9999 hk9999a hj9999a hk9999b hj9999b hk9999c hj9999c hk9999d hj9999d hk9999e hj9999e hk9999f hj9999f hR hM h1)) mv_X11_layStates km_X11_210 rfl rfl ⟨Nat.le_of_ble_eq_true rfl, Nat.le_of_ble_eq_true rfl⟩ (rc_13 hK hT ha) hK (fun _ => XP.blind) (fun U hU hW => XP.at hK hz hS hT hU hW) rfl hl.1 (Nat.le_of_ble_eq_true rfl) dX11_look_10 ⟨Nat.le_of_ble_eq_true rfl, Nat.le_of_ble_eq_true rfl⟩) hS ?_
  rintro G10 H locs ⟨hF10, oq10, oq10a⟩ hT hS
  refine lv_aload_n hx hb dX11_look_13 rfl (lv_at hl 0 rfl) ?_
  refine lv_iconst (v := 2) hx hb dX11_look_14 (by decide) ?_
  refine lv_aload_n hx hb dX11_look_15 rfl (lv_at hl 0 rfl) ?_
  refine gX11_12 S hK hT ha kf_X11_39 dX11_look_16 (fun _ _ => ?_)
  refine lv_aload_n hx hb dX11_look_19 rfl (lv_at hl 0 rfl) ?_
  refine gX11_11 S hK hT ha kf_X11_36 dX11_look_20 (fun _ _ => ?_)
  refine x_cv0 (x_runV (b := a) (As := [.int 2, .ref (F a 12), .ref (F a 11)]) (rest := []) S (c_X11_findUnlike l E K F G10 a 2 (F a 12) (F a 11) r1 (mw (G.2.1 (F a 1)) 0) ha hk9999f hk9999c (v_X11_look_23_3 (F := F) a G G10 hR (hF10.2.1 _ (xn1 (xne_k hk9999d hk9999c (by decide)) xn0))) (v_X11_look_23_4 (F := F) a G G10 r1 h1 oq10 (hF10.2.1 _ (xn1 (xne_k hk9999d hk9999c (by decide)) xn0)) (hF10.2.1 _ (xn1 (xne_j hj9999f hj9999c (by first | decide | omega)) xn0))) (v_X11_look_23_5 (F := F) a G G10 r1 h1 oq10 (hF10.2.1 _ (xn1 (xne_k hk9999d hk9999c (by decide)) xn0)))) mv_X11_findUnlike km_X11_214 rfl rfl ⟨Nat.le_of_ble_eq_true rfl, Nat.le_of_ble_eq_true rfl⟩ (rc_13 hK hT ha) hK (fun _ => XP.blind) (fun U hU hW => XP.at hK hz hS hT hU hW) rfl hl.1 (Nat.le_of_ble_eq_true rfl) dX11_look_23 ⟨Nat.le_of_ble_eq_true rfl, Nat.le_of_ble_eq_true rfl⟩) hS ?_
  rintro G23 H locs ⟨hF23, t23, oq23, oq23a, oq23b⟩ hT hS
  have t23 : 0 ≤ ((G23.1 a 19).toInt) ∧ ((G23.1 a 19).toInt) ≤ 2388 := t23
  have oq23 : pL G23 F a = fuL (G.2.1 (F a 10)) r1 (mw (G.2.1 (F a 1)) 0) (2 : Int) (ordN (prM (G.2.1 (F a 10))) (rkM (G.2.1 (F a 10))) 12).2 (ordN (prM (G.2.1 (F a 10))) (rkM (G.2.1 (F a 10))) 12).1 := by simp only [(show G10.2.1 (F a 10) = G.2.1 (F a 10) from (hF10.2.1 _ (xn1 (xne_k hk9999d hk9999c (by decide)) xn0)))] at oq23; exact oq23
  have oq23a : ORm (G.2.1 (F a 10)) (G23.2.1 (F a 15)) ((G23.1 a 16).toInt) 12 := by simp only [(show G10.2.1 (F a 10) = G.2.1 (F a 10) from (hF10.2.1 _ (xn1 (xne_k hk9999d hk9999c (by decide)) xn0)))] at oq23a; exact oq23a
  refine lv_aload_n hx hb dX11_look_26 rfl (lv_at hl 0 rfl) ?_
  refine lv_aload_n hx hb dX11_look_27 rfl (lv_at hl 0 rfl) ?_
  refine gX11_19 S hK hT ha kf_X11_203 dX11_look_28 (v := (G23.1 a 19)) rfl (?_)
  refine pX11_45 (v := (G23.1 a 19)) S hK hT hS ha kf_X11_316 dX11_look_31 (fun H locs hT hS => ?_)
  obtain ⟨G31, hG31⟩ : ∃ GG : XG, GG = dput G23 a 45 (G23.1 a 19) := ⟨_, rfl⟩
  rw [← hG31] at hT
  refine lv_aload_n hx hb dX11_look_34 rfl (lv_at hl 0 rfl) ?_
  refine lv_aload_n hx hb dX11_look_35 rfl (lv_at hl 0 rfl) ?_
  refine lv_iconst (v := 0) hx hb dX11_look_36 (by decide) ?_
  refine x_cl0 (x_runV (b := a) (As := [.int 0]) (rest := [.ref a]) S (c_X11_asks l E K F G31 a 0 r1 ha (v_X11_look_37_6 (F := F) a G G31 hR ((ld_c hG31).trans ((hF23.2.1 _ (xn1 (xne_k hk9999d hk9999 (by decide)) (xn1 (xne_k hk9999d hk9999a (by decide)) (xn1 (xne_k hk9999d hk9999b (by decide)) xn0)))).trans (hF10.2.1 _ (xn1 (xne_k hk9999d hk9999c (by decide)) xn0))))) (v_X11_look_37_7 (F := F) a G G31 hM ((ld_c hG31).trans ((hF23.2.1 _ (xn1 (xne_k hk9999e hk9999 (by decide)) (xn1 (xne_k hk9999e hk9999a (by decide)) (xn1 (xne_k hk9999e hk9999b (by decide)) xn0)))).trans (hF10.2.1 _ (xn1 (xne_k hk9999e hk9999c (by decide)) xn0))))) (v_X11_look_37_8 (F := F) a G G10 G31 r1 h1 oq10 ((ld_c hG31).trans ((hF23.2.1 _ (xn1 (xne_k hk9999d hk9999 (by decide)) (xn1 (xne_k hk9999d hk9999a (by decide)) (xn1 (xne_k hk9999d hk9999b (by decide)) xn0)))).trans (hF10.2.1 _ (xn1 (xne_k hk9999d hk9999c (by decide)) xn0)))) ((ld_c hG31).trans ((hF23.2.1 _ (xn1 (xne_k hk9999f hk9999 (by decide)) (xn1 (xne_k hk9999f hk9999a (by decide)) (xn1 (xne_k hk9999f hk9999b (by decide)) xn0)))).trans (hF10.2.1 _ (xn1 (xne_j hj9999f hj9999c (by first | decide | omega)) xn0))))) (v_X11_look_37_9 (K := K) (F := F) a G G10 G23 G31 r1 ha hk9999 hj9999 hk9999a hj9999a hk9999b hj9999b hk9999c hj9999c hk9999d hj9999d hk9999e hj9999e hk9999f hj9999f hF10 hF23 hG31 hR hM h1 oq10 oq10a oq23 oq23a oq23b t23 ((ld_c hG31).trans ((hF23.2.1 _ (xn1 (xne_k hk9999e hk9999 (by decide)) (xn1 (xne_k hk9999e hk9999a (by decide)) (xn1 (xne_k hk9999e hk9999b (by decide)) xn0)))).trans (hF10.2.1 _ (xn1 (xne_k hk9999e hk9999c (by decide)) xn0)))) ((ld_c hG31).trans ((hF23.2.1 _ (xn1 (xne_k hk9999d hk9999 (by decide)) (xn1 (xne_k hk9999d hk9999a (by decide)) (xn1 (xne_k hk9999d hk9999b (by decide)) xn0)))).trans (hF10.2.1 _ (xn1 (xne_k hk9999d hk9999c (by decide)) xn0)))) ((ld_c hG31).trans (hF23.2.1 _ (xn1 (xne_k hk9999c hk9999 (by decide)) (xn1 (xne_k hk9999c hk9999a (by decide)) (xn1 (xne_k hk9999c hk9999b (by decide)) xn0))))) (ld_c hG31) (ld_c hG31) (ld_c hG31) (ld_j hG31 (by decide)) (ld_j hG31 (by decide)) (ld_at hG31) ((ld_j hG31 (by decide)).trans ((hF23.1 _ _ (xnj (by decide) (xnj (by decide) xn0))).trans (hF10.1 _ _ xn0))))) mv_X11_asks km_X11_319 rfl rfl ⟨Nat.le_of_ble_eq_true rfl, Nat.le_of_ble_eq_true rfl⟩ (rc_13 hK hT ha) hK (fun _ => XP.blind) (fun U hU hW => XP.at hK hz hS hT hU hW) rfl hl.1 (Nat.le_of_ble_eq_true rfl) dX11_look_37 ⟨Nat.le_of_ble_eq_true rfl, Nat.le_of_ble_eq_true rfl⟩) hS ?_
  rintro _ G37 H locs ⟨x37, rfl, hF37, t37, oq37, oq37a, oq37b⟩ hT hS
  have t37 : -1 ≤ x37.toInt := t37
  have oq37 : pL G37 F a = fuO (G.2.1 (F a 10)) r1 (mw (G.2.1 (F a 1)) 0) (0 : Int) := by simp only [(show G31.2.1 (F a 10) = G.2.1 (F a 10) from ((ld_c hG31).trans ((hF23.2.1 _ (xn1 (xne_k hk9999d hk9999 (by decide)) (xn1 (xne_k hk9999d hk9999a (by decide)) (xn1 (xne_k hk9999d hk9999b (by decide)) xn0)))).trans (hF10.2.1 _ (xn1 (xne_k hk9999d hk9999c (by decide)) xn0))))), (show G31.2.1 (F a 1) = G.2.1 (F a 1) from ((ld_c hG31).trans ((hF23.2.1 _ (xn1 (xne_k hk9999e hk9999 (by decide)) (xn1 (xne_k hk9999e hk9999a (by decide)) (xn1 (xne_k hk9999e hk9999b (by decide)) xn0)))).trans (hF10.2.1 _ (xn1 (xne_k hk9999e hk9999c (by decide)) xn0)))))] at oq37; exact oq37
  have oq37a : x37.toInt = ffP (G.2.1 (F a 10)) (mw (G.2.1 (F a 1)) 0) (pL G37 F a) := by simp only [(show G31.2.1 (F a 10) = G.2.1 (F a 10) from ((ld_c hG31).trans ((hF23.2.1 _ (xn1 (xne_k hk9999d hk9999 (by decide)) (xn1 (xne_k hk9999d hk9999a (by decide)) (xn1 (xne_k hk9999d hk9999b (by decide)) xn0)))).trans (hF10.2.1 _ (xn1 (xne_k hk9999d hk9999c (by decide)) xn0))))), (show G31.2.1 (F a 1) = G.2.1 (F a 1) from ((ld_c hG31).trans ((hF23.2.1 _ (xn1 (xne_k hk9999e hk9999 (by decide)) (xn1 (xne_k hk9999e hk9999a (by decide)) (xn1 (xne_k hk9999e hk9999b (by decide)) xn0)))).trans (hF10.2.1 _ (xn1 (xne_k hk9999e hk9999c (by decide)) xn0)))))] at oq37a; exact oq37a
  refine pX11_46 (v := x37) S hK hT hS ha kf_X11_322 dX11_look_40 (fun H locs hT hS => ?_)
  obtain ⟨G40, hG40⟩ : ∃ GG : XG, GG = dput G37 a 46 x37 := ⟨_, rfl⟩
  rw [← hG40] at hT
  refine lv_aload_n hx hb dX11_look_43 rfl (lv_at hl 0 rfl) ?_
  refine gX11_46 S hK hT ha kf_X11_322 dX11_look_44 (v := x37) (ld_at hG40) (?_)
  exact x_ri hx hb hr hlk hQ (Nat.le_of_ble_eq_true rfl) (Nat.le_of_ble_eq_true rfl) hS dX11_look_47 G40 ⟨_, rfl, (by rw [hG40]; exact XFr.dput (XFr.call (by rw [hG31]; exact XFr.dput (XFr.call (XFr.call XFr.rf hF10 xm0 (xm1 3 rfl xm0) xm0) hF23 (xm1 0 rfl (xm1 1 rfl xm0)) (xm1 0 rfl (xm1 1 rfl (xm1 2 rfl xm0))) xm0) (List.mem_of_getElem? (i := 2) rfl)) hF37 (xm1 0 rfl (xm1 1 rfl xm0)) (xm1 0 rfl (xm1 1 rfl (xm1 2 rfl xm0))) xm0) (List.mem_of_getElem? (i := 3) rfl)), (v_X11_look_47_10 (K := K) (F := F) a G G10 G23 G37 G40 x37 r1 ha oq10a oq23 oq23b oq37a oq37b t23 t37 ((ld_j hG40 (by decide)).trans ((hF37.1 _ _ (xnj (by decide) (xnj (by decide) xn0))).trans (ld_at hG31)))), (v_X11_look_47_11 (F := F) a G G37 G40 x37 r1 hG40 oq37), (v_X11_look_47_12 (F := F) a G G37 x37 r1 oq37 oq37a), (v_X11_look_47_13 a G40 x37 (ld_at hG40)), (v_X11_look_47_14 (F := F) a G G10 G40 oq10 ((ld_c hG40).trans ((hF37.2.1 _ (xn1 (xne_k hk9999c hk9999 (by decide)) (xn1 (xne_k hk9999c hk9999a (by decide)) (xn1 (xne_k hk9999c hk9999b (by decide)) xn0)))).trans ((ld_c hG31).trans (hF23.2.1 _ (xn1 (xne_k hk9999c hk9999 (by decide)) (xn1 (xne_k hk9999c hk9999a (by decide)) (xn1 (xne_k hk9999c hk9999b (by decide)) xn0)))))))), (v_X11_look_47_15 (K := K) (F := F) a G G10 G23 G37 G40 x37 ha oq10a oq23b oq37a oq37b t23 t37 (ld_j hG40 (by decide)))⟩ hT

theorem z_X11_freeRule_1 (a0 : Int) (h0 : 0 ≤ a0 ∧ a0 ≤ 12) : ¬ (2147483648 - a0 < ((0 : Nat) : Int)) := by omega
theorem z_X11_freeRule_4 (a0 : Int) (a1 : Int) (h0 : 0 ≤ a0 ∧ a0 ≤ 12) (h1 : a1 = (a0 + 1) ∨ (a0 + 1) < -2147483648 ∨ 2147483648 ≤ (a0 + 1)) : a1 = (a0 + 1) := by omega
theorem z_X11_freeRule_5 (a0 : Int) (h0 : 0 ≤ a0 ∧ a0 ≤ 12) (h1 : ¬ ((12 : Int) ≤ a0)) : 0 ≤ (a0 + 1) ∧ (a0 + 1) ≤ 12 := by omega
theorem z_X11_freeRule_6 (a0 : Int) (h0 : 0 ≤ a0 ∧ a0 ≤ 12) : (0 : Int) ≤ (a0 + 1) := by omega
theorem z_X11_freeRule_7 (a0 : Int) (a1 : Nat) (h0 : 2147483648 - a0 < ((a1 + 1 : Nat) : Int)) : 2147483648 - (a0 + 1) < ((a1 : Nat) : Int) := by omega
abbrev rm_X11_freeRule : Room := { frames := 2, cells := 0, slots := 0, locals := 46 }
set_option maxHeartbeats 4000000 in
set_option maxRecDepth 100000 in
theorem c_X11_freeRule (l : Launch) (E : XE) (K : Nat → Nat) (F : Nat → Nat → Nat) (G : XG) (h0 : Heap) (a : Nat) (ha : K a = 13) : Met l yX11_freeRule (xw yX11_freeRule cX11_freeRule 2 (some .int)) rm_X11_freeRule (va_Pc [.ref a] (XPh E K F G h0)) (XQ E (fun v (u : Unit) => ∃ r : Int32, v = .int r ∧ (0 ≤ r.toInt ∧ r.toInt ≤ 12) ∧ ((r.toInt = 12 ∨ aI (G.2.1 (F a 10)) (10 * r.toInt + 0) = -1) ∧ ∀ i : Int, 0 ≤ i → i < r.toInt → aI (G.2.1 (F a 10)) (10 * i + 0) ≠ -1)) (fun _ H => H = h0)) 0 0 (xA E) := by
  refine x_enter (by decide) (Nat.le_of_ble_eq_true rfl) ?_
  intro p e s m args below meth c Q S hr hlk hnm hQ hP ls hl
  obtain ⟨⟨hz, hK, hT⟩, hh⟩ := hP
  obtain ⟨hx, hb, -, -, -⟩ := id S
  have hS : va_S (xA E) s.heap s.heap [] := va_S.rf
  have hl : lv_has ls 2 [(0, .ref a)] := hl
  obtain ⟨hk9999, hj9999⟩ := fkX11_10 hT ha
  refine lv_iconst (v := 0) hx hb dX11_freeRule_0 (by decide) ?_
  refine lv_istore_n (lv' := [(1, .int 0), (0, .ref a)]) hx hb dX11_freeRule_1 rfl hl (by decide) rfl (fun ls hl => ?_)
  have L2 : ∀ (N2 : Nat) (l1_2 : Int32) (locs : List Loc) (ls : Array Slot), (∀ i : Int, 0 ≤ i → i < l1_2.toInt → aI (G.2.1 (F a 10)) (10 * i + 0) ≠ -1) → 0 ≤ l1_2.toInt ∧ l1_2.toInt ≤ 12 → (0 : Int) ≤ l1_2.toInt → 2147483648 - l1_2.toInt < ((N2 : Nat) : Int) → TW E K F G s.heap → va_S (xA E) s.heap s.heap locs → lv_has ls 2 [(0, .ref a), (1, .int l1_2)] → W p l e rm_X11_freeRule s m args below meth c s.heap locs 0 0 Q (F0 m 2 ls []) := by
    intro N2
    induction N2 with
    | zero =>
      intro l1_2 locs ls pr I2_0 I2_1 hm2
      exact absurd hm2 (z_X11_freeRule_1 l1_2.toInt I2_0)
    | succ N2 ih2 =>
      intro l1_2 locs ls pr I2_0 I2_1 hm2 hT hS hl
      refine lv_iload_n hx hb dX11_freeRule_2 rfl (lv_at hl 1 rfl) ?_
      refine lv_bipush (v := 12) hx hb dX11_freeRule_3 (by decide) ?_
      refine xi_cge (tgt := 22) hx hb (rfl : Int32.toInt l1_2 = l1_2.toInt) ((by decide) : Int32.toInt 12 = (12 : Int)) dX11_freeRule_5 (by decide) (fun c5 => ?_) (fun c5 => ?_)
      · refine lv_iload_n hx hb dX11_freeRule_22 rfl (lv_at hl 1 rfl) ?_
        exact x_ri hx hb hr hlk hQ (Nat.le_of_ble_eq_true rfl) (Nat.le_of_ble_eq_true rfl) hS dX11_freeRule_23 () ⟨_, rfl, (I2_0), (v_X11_freeRule_23_1 (K := K) (F := F) a l1_2 G N2 ha pr I2_0 I2_1 hm2 c5)⟩ hh
      · refine lv_aload_n hx hb dX11_freeRule_8 rfl (lv_at hl 0 rfl) ?_
        refine lv_iload_n hx hb dX11_freeRule_9 rfl (lv_at hl 1 rfl) ?_
        refine x_clp (x_runV (b := a) (As := [.int l1_2]) (rest := []) S (c_X11_isRule l E K F G s.heap a l1_2 ha) mv_X11_isRule km_X11_162 rfl rfl ⟨Nat.le_of_ble_eq_true rfl, Nat.le_of_ble_eq_true rfl⟩ (rc_13 hK hT ha) hK (fun _ => XPh.blind) (fun U hU hW => XPh.at hK hz hS hT hU hW) rfl hl.1 (Nat.le_of_ble_eq_true rfl) dX11_freeRule_10 ⟨Nat.le_of_ble_eq_true rfl, Nat.le_of_ble_eq_true rfl⟩) hS ?_
        rintro _ _ locs ⟨x10, rfl, b10, t10⟩ hS
        have t10 : (x10.toInt = 1 ∧ 0 ≤ l1_2.toInt ∧ l1_2.toInt ≤ 11 ∧ (aI (G.2.1 (F a 10)) (10 * l1_2.toInt + 0)) ≠ -1) ∨ (x10.toInt = 0 ∧ (¬ (0 ≤ l1_2.toInt ∧ l1_2.toInt ≤ 11) ∨ (aI (G.2.1 (F a 10)) (10 * l1_2.toInt + 0)) = -1)) := t10
        refine xi_zeq (tgt := 22) hx hb (rfl : Int32.toInt x10 = x10.toInt) dX11_freeRule_13 (by decide) (fun c13 => ?_) (fun c13 => ?_)
        · refine lv_iload_n hx hb dX11_freeRule_22 rfl (lv_at hl 1 rfl) ?_
          exact x_ri hx hb hr hlk hQ (Nat.le_of_ble_eq_true rfl) (Nat.le_of_ble_eq_true rfl) hS dX11_freeRule_23 () ⟨_, rfl, (I2_0), (v_X11_freeRule_23_2 (K := K) (F := F) a l1_2 G N2 x10 ha pr I2_0 I2_1 hm2 c5 t10 c13)⟩ hh
        · refine xi_iinc (n := 1) (lv' := fun z9 => [(1, .int z9), (0, .ref a)]) (k := 1) hx hb (rfl : Int32.toInt l1_2 = l1_2.toInt) (by decide) dX11_freeRule_16 hl rfl (by decide) (fun _ => rfl) (fun x16 ls t16 hl => ?_)
          have e16 : x16.toInt = (l1_2.toInt + 1) := (z_X11_freeRule_4 l1_2.toInt x16.toInt I2_0 t16)
          have hl : lv_has ls 2 [(1, .int x16), (0, .ref a)] := hl
          refine lv_goto (tgt := 2) hx hb dX11_freeRule_19 (by decide) ?_
          exact ih2 x16 _ _ (by rw [(e16 : Int32.toInt x16 = (l1_2.toInt + 1))] <;> exact (v_X11_freeRule_19_3 (K := K) (F := F) a l1_2 G N2 x10 ha pr I2_0 I2_1 hm2 c5 t10 c13)) (by rw [(e16 : Int32.toInt x16 = (l1_2.toInt + 1))] <;> exact (z_X11_freeRule_5 l1_2.toInt I2_0 c5)) (by rw [(e16 : Int32.toInt x16 = (l1_2.toInt + 1))] <;> exact (z_X11_freeRule_6 l1_2.toInt I2_0)) (by rw [(e16 : Int32.toInt x16 = (l1_2.toInt + 1))] <;> exact (z_X11_freeRule_7 l1_2.toInt N2 hm2)) hT hS (lv_sub hl [1, 0] rfl)
  exact L2 4294967297 0 _ _ (v_X11_freeRule_1_4 (K := K) (F := F) a G ha) (by decide) (by decide) (by decide) hT hS (lv_sub hl [1, 0] rfl)

