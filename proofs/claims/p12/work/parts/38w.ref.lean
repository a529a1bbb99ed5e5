theorem z_X11_goesBack_1 (a0 : Int) (a1 : Int) (h0 : 0 ≤ a1 ∧ a1 < a0 ∧ a0 ≤ 2388) : 0 ≤ a1 ∧ a1 < a0 := by omega
theorem z_X11_goesBack_2 (a0 : Int) (a1 : Int) (h0 : 0 ≤ a1 ∧ a1 < a0 ∧ a0 ≤ 2388) : 0 ≤ a1 ∧ a1 < ((2400 : Nat) : Int) := by omega
theorem z_X11_goesBack_5 (a0 : Int) (a1 : Int) (a2 : Int) (h0 : a1 ≤ a0 ∧ a0 ≤ a2) (h1 : a1 = 0 ∨ a1 = -99) (h2 : a2 = 29 ∨ a2 = 99) : -99 ≤ a0 ∧ a0 ≤ 99 := by omega
abbrev rm_X11_goesBack : Room := { frames := 3, cells := 0, slots := 0, locals := 65 }
set_option maxHeartbeats 4000000 in
set_option maxRecDepth 100000 in
theorem c_X11_goesBack (l : Launch) (E : XE) (K : Nat → Nat) (F : Nat → Nat → Nat) (G : XG) (a : Nat) (ha : K a = 13) (s0 : 0 ≤ ((G.1 a 46).toInt) ∧ ((G.1 a 46).toInt) < ((G.1 a 19).toInt) ∧ ((G.1 a 19).toInt) ≤ 2388) (hv : PV (G.2.1 (F a 10)) (pL G F a)) (hA : RM (G.2.1 (F a 4)) 0) : Met l yX11_goesBack (xw yX11_goesBack cX11_goesBack 1 (some .int)) rm_X11_goesBack (va_Pc [.ref a] (XP E K F G)) (XQ E (fun v (u : XG) => ∃ r : Int32, v = .int r ∧ XFr [(a, 20), (a, 21), (a, 23)] [F a 1, F a 8, F a 22] [] G u ∧ (r.toInt = -5) ∧ (mw (u.2.1 (F a 1)) 0 = mw (G.2.1 (F a 4)) 0) ∧ (RM (u.2.1 (F a 1)) 0) ∧ (0 ≤ ((u.1 a 23).toInt) ∧ ((u.1 a 23).toInt) ≤ 24)) (fun u H => TW E K F u H)) 0 0 (xA E) := by
  refine x_enter (by decide) (Nat.le_of_ble_eq_true rfl) ?_
  intro p e s m args below meth c Q S hr hlk hnm hQ hP ls hl
  obtain ⟨hz, hK, hT⟩ := hP
  obtain ⟨hx, hb, -, -, -⟩ := id S
  obtain ⟨H, hT, hS, hgo⟩ : ∃ H : Heap, TW E K F G H ∧ va_S (xA E) s.heap H [] ∧ H = s.heap := ⟨_, hT, va_S.rf, rfl⟩
  rw [← hgo]
  have hl : lv_has ls 1 [(0, .ref a)] := hl
  obtain ⟨hk9999, hj9999⟩ := fkX11_1 hT ha
  obtain ⟨hk9999a, hj9999a⟩ := fkX11_8 hT ha
  obtain ⟨hk9999b, hj9999b⟩ := fkX11_22 hT ha
  obtain ⟨hk9999c, hj9999c⟩ := fkX11_17 hT ha
  obtain ⟨hk9999d, hj9999d⟩ := fkX11_18 hT ha
  obtain ⟨hk9999e, hj9999e⟩ := fkX11_10 hT ha
  obtain ⟨hk9999f, hj9999f⟩ := fkX11_4 hT ha
  have z0 : (0 ≤ (aI (G.2.1 (F a 17)) ((G.1 a 46).toInt)) ∧ (aI (G.2.1 (F a 17)) ((G.1 a 46).toInt)) ≤ 11) ∧ (aI (G.2.1 (F a 10)) (10 * (aI (G.2.1 (F a 17)) ((G.1 a 46).toInt)) + 0)) ≠ -1 ∧ ((sF (aI (G.2.1 (F a 10)) (10 * (aI (G.2.1 (F a 17)) ((G.1 a 46).toInt)) + 0))) ≤ (aI (G.2.1 (F a 18)) ((G.1 a 46).toInt)) ∧ (aI (G.2.1 (F a 18)) ((G.1 a 46).toInt)) ≤ (sL (aI (G.2.1 (F a 10)) (10 * (aI (G.2.1 (F a 17)) ((G.1 a 46).toInt)) + 0)))) := pv_at hv (z_X11_goesBack_1 ((G.1 a 19).toInt) ((G.1 a 46).toInt) s0)
  have z0a : ((sF (aI (G.2.1 (F a 10)) (10 * (aI (G.2.1 (F a 17)) ((G.1 a 46).toInt)) + 0))) = 0 ∨ (sF (aI (G.2.1 (F a 10)) (10 * (aI (G.2.1 (F a 17)) ((G.1 a 46).toInt)) + 0))) = -99) ∧ ((sL (aI (G.2.1 (F a 10)) (10 * (aI (G.2.1 (F a 17)) ((G.1 a 46).toInt)) + 0))) = 29 ∨ (sL (aI (G.2.1 (F a 10)) (10 * (aI (G.2.1 (F a 17)) ((G.1 a 46).toInt)) + 0))) = 99) := sFLb _
  refine lv_aload_n hx hb dX11_goesBack_0 rfl (lv_at hl 0 rfl) ?_
  refine gX11_4 S hK hT ha kf_X11_21 dX11_goesBack_1 (fun _ _ => ?_)
  refine lv_iconst (v := 0) hx hb dX11_goesBack_4 (by decide) ?_
  refine lv_aload_n hx hb dX11_goesBack_5 rfl (lv_at hl 0 rfl) ?_
  refine gX11_1 S hK hT ha kf_X11_9 dX11_goesBack_6 (fun _ _ => ?_)
  refine lv_iconst (v := 0) hx hb dX11_goesBack_9 (by decide) ?_
  refine x_cv0 (x_runS (As := [.ref (F a 4), .int 0, .ref (F a 1), .int 0]) (rest := []) S (c_X11_copy l E K F G (F a 4) 0 (F a 1) 0 (XO.b hk9999f (by decide)) (XO.a hk9999 (by decide)) (v_X11_goesBack_10_1 (K := K) (F := F) a G ha hk9999 hj9999 hk9999a hj9999a hk9999b hj9999b hk9999c hj9999c hk9999d hj9999d hk9999e hj9999e hk9999f hj9999f hv hA s0 z0 z0a)) ms_X11_copy km_X11_309 rfl rfl ⟨Nat.le_of_ble_eq_true rfl, Nat.le_of_ble_eq_true rfl⟩ hK (fun _ => XP.blind) (fun U hU hW => XP.at hK hz hS hT hU hW) rfl hl.1 (Nat.le_of_ble_eq_true rfl) dX11_goesBack_10 ⟨Nat.le_of_ble_eq_true rfl, Nat.le_of_ble_eq_true rfl⟩) hS ?_
  rintro G10 H locs ⟨hF10, oq10⟩ hT hS
  refine lv_aload_n hx hb dX11_goesBack_13 rfl (lv_at hl 0 rfl) ?_
  refine lv_aload_n hx hb dX11_goesBack_14 rfl (lv_at hl 0 rfl) ?_
  refine gX11_17 S hK hT ha kf_X11_51 dX11_goesBack_15 (fun _ _ => ?_)
  refine lv_aload_n hx hb dX11_goesBack_18 rfl (lv_at hl 0 rfl) ?_
  refine gX11_46 S hK hT ha kf_X11_322 dX11_goesBack_19 (v := (G.1 a 46)) (hF10.1 _ _ xn0) (?_)
  refine al_0 S hK hT hk9999c ar_43 (by decide) (z_X11_goesBack_2 ((G.1 a 19).toInt) ((G.1 a 46).toInt) s0) dX11_goesBack_22 (fun x22 hv22 o22 => ?_)
  have hv22 : x22.toInt = (aI (G.2.1 (F a 17)) ((G.1 a 46).toInt)) := hv22.trans (by rw [(rfl : Int32.toInt (G.1 a 46) = ((G.1 a 46).toInt)), ((hF10.2.1 _ (xn1 (xne_k hk9999c hk9999 (by decide)) xn0)) : G10.2.1 (F a 17) = G.2.1 (F a 17))])
  refine lv_aload_n hx hb dX11_goesBack_23 rfl (lv_at hl 0 rfl) ?_
  refine gX11_18 S hK hT ha kf_X11_54 dX11_goesBack_24 (fun _ _ => ?_)
  refine lv_aload_n hx hb dX11_goesBack_27 rfl (lv_at hl 0 rfl) ?_
  refine gX11_46 S hK hT ha kf_X11_322 dX11_goesBack_28 (v := (G.1 a 46)) (hF10.1 _ _ xn0) (?_)
  refine al_0 S hK hT hk9999d ar_44 (by decide) (z_X11_goesBack_2 ((G.1 a 19).toInt) ((G.1 a 46).toInt) s0) dX11_goesBack_31 (fun x31 hv31 o31 => ?_)
  have hv31 : x31.toInt = (aI (G.2.1 (F a 18)) ((G.1 a 46).toInt)) := hv31.trans (by rw [(rfl : Int32.toInt (G.1 a 46) = ((G.1 a 46).toInt)), ((hF10.2.1 _ (xn1 (xne_k hk9999d hk9999 (by decide)) xn0)) : G10.2.1 (F a 18) = G.2.1 (F a 18))])
  refine x_cv0 (x_runV (b := a) (As := [.int x22, .int x31]) (rest := []) S (c_X11_failed l E K F G10 a x22 x31 ha (by rw [(hv22 : Int32.toInt x22 = (aI (G.2.1 (F a 17)) ((G.1 a 46).toInt)))] <;> exact ((z0).1)) (by rw [(hv31 : Int32.toInt x31 = (aI (G.2.1 (F a 18)) ((G.1 a 46).toInt)))] <;> exact (z_X11_goesBack_5 (aI (G.2.1 (F a 18)) ((G.1 a 46).toInt)) (sF (aI (G.2.1 (F a 10)) (10 * (aI (G.2.1 (F a 17)) ((G.1 a 46).toInt)) + 0))) (sL (aI (G.2.1 (F a 10)) (10 * (aI (G.2.1 (F a 17)) ((G.1 a 46).toInt)) + 0))) (z0).2.2 (z0a).1 (z0a).2))) mv_X11_failed km_X11_299 rfl rfl ⟨Nat.le_of_ble_eq_true rfl, Nat.le_of_ble_eq_true rfl⟩ (rc_13 hK hT ha) hK (fun _ => XP.blind) (fun U hU hW => XP.at hK hz hS hT hU hW) rfl hl.1 (Nat.le_of_ble_eq_true rfl) dX11_goesBack_32 ⟨Nat.le_of_ble_eq_true rfl, Nat.le_of_ble_eq_true rfl⟩) hS ?_
  rintro G32 H locs ⟨hF32, t32⟩ hT hS
  have t32 : ((G32.1 a 20).toInt) = (aI (G.2.1 (F a 17)) ((G.1 a 46).toInt)) ∧ ((G32.1 a 21).toInt) = (aI (G.2.1 (F a 18)) ((G.1 a 46).toInt)) ∧ 0 ≤ ((G32.1 a 23).toInt) ∧ ((G32.1 a 23).toInt) ≤ 24 := by rw [(hv22 : Int32.toInt x22 = (aI (G.2.1 (F a 17)) ((G.1 a 46).toInt)))] at t32; rw [(hv31 : Int32.toInt x31 = (aI (G.2.1 (F a 18)) ((G.1 a 46).toInt)))] at t32; exact t32
  refine lv_aload_n hx hb dX11_goesBack_35 rfl (lv_at hl 0 rfl) ?_
  refine lv_bipush (v := (-5)) hx hb dX11_goesBack_36 (by decide) ?_
  refine x_cl0 (x_runV (b := a) (As := [.int (-5)]) (rest := []) S (c_X11_refuses l E K F G32 a (-5) ha) mv_X11_refuses km_X11_325 rfl rfl ⟨Nat.le_of_ble_eq_true rfl, Nat.le_of_ble_eq_true rfl⟩ (rc_13 hK hT ha) hK (fun _ => XP.blind) (fun U hU hW => XP.at hK hz hS hT hU hW) rfl hl.1 (Nat.le_of_ble_eq_true rfl) dX11_goesBack_38 ⟨Nat.le_of_ble_eq_true rfl, Nat.le_of_ble_eq_true rfl⟩) hS ?_
  rintro _ G38 H locs ⟨x38, rfl, hF38, t38⟩ hT hS
  have t38 : x38.toInt = (-5 : Int) := by rw [((by decide) : Int32.toInt (-5) = (-5 : Int))] at t38; exact t38
  exact x_ri hx hb hr hlk hQ (Nat.le_of_ble_eq_true rfl) (Nat.le_of_ble_eq_true rfl) hS dX11_goesBack_41 G38 ⟨_, rfl, (XFr.call (XFr.call (XFr.call XFr.rf hF10 xm0 (xm1 0 rfl xm0) xm0) hF32 (xm1 0 rfl (xm1 1 rfl (xm1 2 rfl xm0))) (xm1 2 rfl xm0) xm0) hF38 xm0 (xm1 1 rfl xm0) xm0), (by rw [(t38 : Int32.toInt x38 = (-5 : Int))] <;> exact (by decide)), (v_X11_goesBack_41_2 (F := F) a G G10 G38 oq10 ((hF38.2.1 _ (xn1 (xne_k hk9999 hk9999a (by decide)) xn0)).trans (hF32.2.1 _ (xn1 (xne_k hk9999 hk9999b (by decide)) xn0)))), (v_X11_goesBack_41_3 (F := F) a G G10 G38 hA oq10 ((hF38.2.1 _ (xn1 (xne_k hk9999 hk9999a (by decide)) xn0)).trans (hF32.2.1 _ (xn1 (xne_k hk9999 hk9999b (by decide)) xn0)))), (v_X11_goesBack_41_4 (K := K) (F := F) a G G32 G38 ha s0 z0 z0a t32 (hF38.1 _ _ xn0))⟩ hT

