theorem z_X11_queue_1 (a0 : Int) (h0 : 0 ≤ a0 ∧ a0 ≤ 2388) : -2147483648 ≤ a0 ∧ a0 < 2147483648 := by omega
theorem z_X11_queue_2 (a0 : Int) (a1 : Int) (a2 : Int) (h0 : (a1 = 1 ∧ (0 : Int) ≤ a0 ∧ a0 ≤ (a2 - (1 : Int))) ∨ (a1 = 0 ∧ (a0 < (0 : Int) ∨ (a2 - (1 : Int)) < a0))) (h1 : ¬ (a1 = 0)) : 0 ≤ a0 ∧ a0 < a2 := by omega
theorem z_X11_queue_3 (a0 : Int) (a1 : Int) (a2 : Int) (h0 : 0 ≤ a2 ∧ a2 ≤ 2388) (h1 : (a1 = 1 ∧ (0 : Int) ≤ a0 ∧ a0 ≤ (a2 - (1 : Int))) ∨ (a1 = 0 ∧ (a0 < (0 : Int) ∨ (a2 - (1 : Int)) < a0))) (h2 : ¬ (a1 = 0)) : 0 ≤ a0 ∧ a0 < ((2400 : Nat) : Int) := by omega
theorem z_X11_queue_5 (a0 : Int) (a1 : Int) (a2 : Int) (a3 : Int) (h0 : 0 ≤ a0 ∧ a0 ≤ 11) (h1 : a2 ≤ a1 ∧ a1 ≤ a3) (h2 : a2 = 0 ∨ a2 = -99) (h3 : a3 = 29 ∨ a3 = 99) : 0 ≤ a0 ∧ a0 ≤ 11 ∧ -99 ≤ a1 ∧ a1 ≤ 99 := by omega
theorem z_X11_queue_6 (a0 : Int) : (a0 < 0 ∨ 4 < a0) ∨ (a0 = 0) ∨ (a0 = 1) ∨ (a0 = 2) ∨ (a0 = 3) ∨ (a0 = 4) := by omega
theorem z_X11_queue_9 (a0 : Int) (a1 : Int) (a2 : Int) (a3 : Int) (h0 : 0 ≤ a0 ∧ a0 ≤ 11) (h1 : a2 ≤ a1 ∧ a1 ≤ a3) (h2 : a2 = 0 ∨ a2 = -99) (h3 : a3 = 29 ∨ a3 = 99) : 0 ≤ 199 * a0 + a1 + 99 ∧ 199 * a0 + a1 + 99 < ((2388 : Nat) : Int) := by omega
abbrev rm_X11_queue : Room := { frames := 5, cells := 0, slots := 0, locals := 122 }
set_option maxHeartbeats 4000000 in
set_option maxRecDepth 100000 in
theorem c_X11_queue (l : Launch) (E : XE) (K : Nat → Nat) (F : Nat → Nat → Nat) (G : XG) (a : Nat) (p0 : Int32) (p1 : Int32) (ha : K a = 13) (hR : RV (G.2.1 (F a 10))) (hM : RM (G.2.1 (F a 1)) (0)) (hB : RM (G.2.1 (F a 2)) 0) : Met l yX11_queue (xw yX11_queue cX11_queue 4 (some .int)) rm_X11_queue (va_Pc [.ref a, .int p0, .int p1] (XP E K F G)) (XQ E (fun v (u : XG) => ∃ r : Int32, v = .int r ∧ XFr [(a, 0), (a, 16), (a, 19)] [F a 15, F a 17, F a 18, F a 11, F a 13] [] G u ∧ ((¬ (0 ≤ p0.toInt ∧ p0.toInt < (((if ((G.1 a 6).toInt) = 0 then [] else fuO (G.2.1 (F a 10)) (mw (G.2.1 (F a 1)) 0) (mw (G.2.1 (F a 2)) 0) 1).length : Nat) : Int)) ∧ ((u.1 a 0).toInt) = 1 ∧ r.toInt = 0) ∨ (∃ y : Int × Int, 0 ≤ p0.toInt ∧ (if ((G.1 a 6).toInt) = 0 then [] else fuO (G.2.1 (F a 10)) (mw (G.2.1 (F a 1)) 0) (mw (G.2.1 (F a 2)) 0) 1)[(p0.toInt).toNat]? = some y ∧ ((u.1 a 0).toInt) = 0 ∧ r.toInt = quM (G.2.1 (F a 10)) (mw (G.2.1 (F a 1)) 0) (mw (G.2.1 (F a 2)) 0) y p1.toInt)) ∧ (u.2.2.2 = G.2.2.2)) (fun u H => TW E K F u H)) 0 0 (xA E) := by
  refine x_enter (by decide) (Nat.le_of_ble_eq_true rfl) ?_
  intro p e s m args below meth c Q S hr hlk hnm hQ hP ls hl
  obtain ⟨hz, hK, hT⟩ := hP
  obtain ⟨hx, hb, -, -, -⟩ := id S
  obtain ⟨H, hT, hS, hgo⟩ : ∃ H : Heap, TW E K F G H ∧ va_S (xA E) s.heap H [] ∧ H = s.heap := ⟨_, hT, va_S.rf, rfl⟩
  rw [← hgo]
  have hl : lv_has ls 4 [(0, .ref a), (1, .int p0), (2, .int p1)] := hl
  obtain ⟨hk9999, hj9999⟩ := fkX11_15 hT ha
  obtain ⟨hk9999a, hj9999a⟩ := fkX11_17 hT ha
  obtain ⟨hk9999b, hj9999b⟩ := fkX11_18 hT ha
  obtain ⟨hk9999c, hj9999c⟩ := fkX11_11 hT ha
  obtain ⟨hk9999d, hj9999d⟩ := fkX11_13 hT ha
  obtain ⟨hk9999e, hj9999e⟩ := fkX11_10 hT ha
  obtain ⟨hk9999f, hj9999f⟩ := fkX11_1 hT ha
  obtain ⟨hk9999g, hj9999g⟩ := fkX11_2 hT ha
  refine lv_aload_n hx hb dX11_queue_0 rfl (lv_at hl 0 rfl) ?_
  refine x_cv0 (x_runV (b := a) (As := []) (rest := []) S (c_X11_findQueue l E K F G a ha (v_X11_queue_1_1 (F := F) a G hR) (v_X11_queue_1_2 (F := F) a G hM) (v_X11_queue_1_3 (F := F) a G hB)) mv_X11_findQueue km_X11_218 rfl rfl ⟨Nat.le_of_ble_eq_true rfl, Nat.le_of_ble_eq_true rfl⟩ (rc_13 hK hT ha) hK (fun _ => XP.blind) (fun U hU hW => XP.at hK hz hS hT hU hW) rfl hl.1 (Nat.le_of_ble_eq_true rfl) dX11_queue_1 ⟨Nat.le_of_ble_eq_true rfl, Nat.le_of_ble_eq_true rfl⟩) hS ?_
  rintro G1 H locs ⟨hF1, t1, oq1, oq1a, oq1b⟩ hT hS
  have t1 : 0 ≤ ((G1.1 a 19).toInt) ∧ ((G1.1 a 19).toInt) ≤ 2388 := t1
  have hvq : PV (G.2.1 (F a 10)) (pL G1 F a) := (v_X11_queue_4_4 (F := F) G1 a G oq1)
  refine lv_aload_n hx hb dX11_queue_4 rfl (lv_at hl 0 rfl) ?_
  refine lv_iload_n hx hb dX11_queue_5 rfl (lv_at hl 1 rfl) ?_
  refine lv_i2l (v := p0.toInt64) hx hb dX11_queue_6 rfl ?_
  refine lv_lconst (v := (0 : Int64)) hx hb dX11_queue_7 (by decide) ?_
  refine lv_aload_n hx hb dX11_queue_8 rfl (lv_at hl 0 rfl) ?_
  refine gX11_19 S hK hT ha kf_X11_203 dX11_queue_9 (v := (G1.1 a 19)) rfl (?_)
  refine lv_i2l (v := ((G1.1 a 19) : Int32).toInt64) hx hb dX11_queue_12 rfl ?_
  refine lv_lconst (v := (1 : Int64)) hx hb dX11_queue_13 (by decide) ?_
  refine lv_lsub hx hb dX11_queue_14 (lv_topl (fun y14 hy14 => ?_))
  have hy14 : y14.toInt = ((G1.1 a 19).toInt) - (1 : Int) := xl_sub (xl_i2l (rfl : Int32.toInt (G1.1 a 19) = ((G1.1 a 19).toInt))) (by decide) (z_X11_queue_1 ((G1.1 a 19).toInt) t1) (by decide) hy14
  refine x_clp (x_runS (As := [.long p0.toInt64, .long (0 : Int64), .long y14]) (rest := [.ref a]) S (c_X11_in l E K F G1 H p0.toInt64 p0.toInt (0 : Int64) (0 : Int) y14 (((G1.1 a 19).toInt) - (1 : Int)) (xl_i2l (rfl : Int32.toInt p0 = p0.toInt)) (by decide) hy14) ms_X11_in km_X11_139 rfl rfl ⟨Nat.le_of_ble_eq_true rfl, Nat.le_of_ble_eq_true rfl⟩ hK (fun _ => XPh.blind) (fun U hU hW => XPh.at hK hz hS hT hU hW) rfl hl.1 (Nat.le_of_ble_eq_true rfl) dX11_queue_15 ⟨Nat.le_of_ble_eq_true rfl, Nat.le_of_ble_eq_true rfl⟩) hS ?_
  rintro _ _ locs ⟨x15, rfl, b15, t15⟩ hS
  have t15 : (x15.toInt = 1 ∧ (0 : Int) ≤ p0.toInt ∧ p0.toInt ≤ (((G1.1 a 19).toInt) - (1 : Int))) ∨ (x15.toInt = 0 ∧ (p0.toInt < (0 : Int) ∨ (((G1.1 a 19).toInt) - (1 : Int)) < p0.toInt)) := t15
  refine xi_zeq (tgt := 25) hx hb (rfl : Int32.toInt x15 = x15.toInt) dX11_queue_18 (by decide) (fun c18 => ?_) (fun c18 => ?_)
  · refine lv_iconst (v := 1) hx hb dX11_queue_25 (by decide) ?_
    refine pX11_0 (v := 1) S hK hT hS ha kf_X11_134 dX11_queue_26 (fun H locs hT hS => ?_)
    obtain ⟨G26, hG26⟩ : ∃ GG : XG, GG = dput G1 a 0 1 := ⟨_, rfl⟩
    rw [← hG26] at hT
    refine lv_aload_n hx hb dX11_queue_29 rfl (lv_at hl 0 rfl) ?_
    refine gX11_0 S hK hT ha kf_X11_134 dX11_queue_30 (v := 1) (ld_at hG26) (?_)
    refine lv_iconst (v := 1) hx hb dX11_queue_33 (by decide) ?_
    refine xi_cne (tgt := 39) hx hb ((by decide) : Int32.toInt 1 = (1 : Int)) ((by decide) : Int32.toInt 1 = (1 : Int)) dX11_queue_34 (by decide) (fun c => absurd c (show ¬ ((1 : Int) ≠ (1 : Int)) by decide)) (fun _ => ?_)
    refine lv_iconst (v := 0) hx hb dX11_queue_37 (by decide) ?_
    exact x_ri hx hb hr hlk hQ (Nat.le_of_ble_eq_true rfl) (Nat.le_of_ble_eq_true rfl) hS dX11_queue_38 G26 ⟨_, rfl, (by rw [hG26]; exact XFr.dput (XFr.call XFr.rf hF1 (xm1 1 rfl (xm1 2 rfl xm0)) (xm1 0 rfl (xm1 1 rfl (xm1 2 rfl (xm1 3 rfl (xm1 4 rfl xm0))))) xm0) (List.mem_of_getElem? (i := 0) rfl)), (v_X11_queue_38_5 (K := K) (F := F) a G G1 G26 x15 p0 p1 ha oq1 oq1a oq1b t1 t15 c18 (ld_at hG26)), (v_X11_queue_38_6 a G G1 G26 hG26 oq1b)⟩ hT
  · refine lv_iconst (v := 0) hx hb dX11_queue_21 (by decide) ?_
    refine lv_goto (tgt := 26) hx hb dX11_queue_22 (by decide) ?_
    refine pX11_0 (v := 0) S hK hT hS ha kf_X11_134 dX11_queue_26 (fun H locs hT hS => ?_)
    obtain ⟨G26, hG26⟩ : ∃ GG : XG, GG = dput G1 a 0 0 := ⟨_, rfl⟩
    rw [← hG26] at hT
    refine lv_aload_n hx hb dX11_queue_29 rfl (lv_at hl 0 rfl) ?_
    refine gX11_0 S hK hT ha kf_X11_134 dX11_queue_30 (v := 0) (ld_at hG26) (?_)
    refine lv_iconst (v := 1) hx hb dX11_queue_33 (by decide) ?_
    refine xi_cne (tgt := 39) hx hb ((by decide) : Int32.toInt 0 = (0 : Int)) ((by decide) : Int32.toInt 1 = (1 : Int)) dX11_queue_34 (by decide) (fun _ => ?_) (fun c => absurd (show (0 : Int) ≠ (1 : Int) by decide) c)
    have z39 : (0 ≤ (aI (G1.2.1 (F a 17)) (p0.toInt)) ∧ (aI (G1.2.1 (F a 17)) (p0.toInt)) ≤ 11) ∧ (aI (G.2.1 (F a 10)) (10 * (aI (G1.2.1 (F a 17)) (p0.toInt)) + 0)) ≠ -1 ∧ ((sF (aI (G.2.1 (F a 10)) (10 * (aI (G1.2.1 (F a 17)) (p0.toInt)) + 0))) ≤ (aI (G1.2.1 (F a 18)) (p0.toInt)) ∧ (aI (G1.2.1 (F a 18)) (p0.toInt)) ≤ (sL (aI (G.2.1 (F a 10)) (10 * (aI (G1.2.1 (F a 17)) (p0.toInt)) + 0)))) := pv_at hvq (z_X11_queue_2 p0.toInt x15.toInt ((G1.1 a 19).toInt) t15 c18)
    have z39a : ((sF (aI (G.2.1 (F a 10)) (10 * (aI (G1.2.1 (F a 17)) (p0.toInt)) + 0))) = 0 ∨ (sF (aI (G.2.1 (F a 10)) (10 * (aI (G1.2.1 (F a 17)) (p0.toInt)) + 0))) = -99) ∧ ((sL (aI (G.2.1 (F a 10)) (10 * (aI (G1.2.1 (F a 17)) (p0.toInt)) + 0))) = 29 ∨ (sL (aI (G.2.1 (F a 10)) (10 * (aI (G1.2.1 (F a 17)) (p0.toInt)) + 0))) = 99) := sFLb _
    refine lv_aload_n hx hb dX11_queue_39 rfl (lv_at hl 0 rfl) ?_
    refine gX11_17 S hK hT ha kf_X11_51 dX11_queue_40 (fun _ _ => ?_)
    refine lv_iload_n hx hb dX11_queue_43 rfl (lv_at hl 1 rfl) ?_
    refine al_0 S hK hT hk9999a ar_43 (by decide) (z_X11_queue_3 p0.toInt x15.toInt ((G1.1 a 19).toInt) t1 t15 c18) dX11_queue_44 (fun x44 hv44 o44 => ?_)
    have hv44 : x44.toInt = (aI (G1.2.1 (F a 17)) (p0.toInt)) := hv44.trans (by rw [(rfl : Int32.toInt p0 = p0.toInt), ((ld_c hG26) : G26.2.1 (F a 17) = G1.2.1 (F a 17))])
    refine lv_aload_n hx hb dX11_queue_45 rfl (lv_at hl 0 rfl) ?_
    refine gX11_18 S hK hT ha kf_X11_54 dX11_queue_46 (fun _ _ => ?_)
    refine lv_iload_n hx hb dX11_queue_49 rfl (lv_at hl 1 rfl) ?_
    refine al_0 S hK hT hk9999b ar_44 (by decide) (z_X11_queue_3 p0.toInt x15.toInt ((G1.1 a 19).toInt) t1 t15 c18) dX11_queue_50 (fun x50 hv50 o50 => ?_)
    have hv50 : x50.toInt = (aI (G1.2.1 (F a 18)) (p0.toInt)) := hv50.trans (by rw [(rfl : Int32.toInt p0 = p0.toInt), ((ld_c hG26) : G26.2.1 (F a 18) = G1.2.1 (F a 18))])
    refine x_clp (x_runS (As := [.int x44, .int x50]) (rest := []) S (c_X11_placeOf l E K F G26 H x44 x50 (by rw [(hv44 : Int32.toInt x44 = (aI (G1.2.1 (F a 17)) (p0.toInt))), (hv50 : Int32.toInt x50 = (aI (G1.2.1 (F a 18)) (p0.toInt)))] <;> exact (z_X11_queue_5 (aI (G1.2.1 (F a 17)) (p0.toInt)) (aI (G1.2.1 (F a 18)) (p0.toInt)) (sF (aI (G.2.1 (F a 10)) (10 * (aI (G1.2.1 (F a 17)) (p0.toInt)) + 0))) (sL (aI (G.2.1 (F a 10)) (10 * (aI (G1.2.1 (F a 17)) (p0.toInt)) + 0))) (z39).1 (z39).2.2 (z39a).1 (z39a).2))) ms_X11_placeOf km_X11_186 rfl rfl ⟨Nat.le_of_ble_eq_true rfl, Nat.le_of_ble_eq_true rfl⟩ hK (fun _ => XPh.blind) (fun U hU hW => XPh.at hK hz hS hT hU hW) rfl hl.1 (Nat.le_of_ble_eq_true rfl) dX11_queue_51 ⟨Nat.le_of_ble_eq_true rfl, Nat.le_of_ble_eq_true rfl⟩) hS ?_
    rintro _ _ locs ⟨x51, rfl, t51⟩ hS
    have t51 : x51.toInt = 199 * (aI (G1.2.1 (F a 17)) (p0.toInt)) + (aI (G1.2.1 (F a 18)) (p0.toInt)) + 99 := by rw [(hv44 : Int32.toInt x44 = (aI (G1.2.1 (F a 17)) (p0.toInt)))] at t51; rw [(hv50 : Int32.toInt x50 = (aI (G1.2.1 (F a 18)) (p0.toInt)))] at t51; exact t51
    refine lv_istore_n (lv' := [(3, .int x51), (0, .ref a), (1, .int p0), (2, .int p1)]) hx hb dX11_queue_54 rfl hl (by decide) rfl (fun ls hl => ?_)
    refine lv_iload_n hx hb dX11_queue_55 rfl (lv_at hl 3 rfl) ?_
    rcases ((z_X11_queue_6 p1.toInt) : (p1.toInt < 0 ∨ 4 < p1.toInt) ∨ (p1.toInt = 0) ∨ (p1.toInt = 1) ∨ (p1.toInt = 2) ∨ (p1.toInt = 3) ∨ (p1.toInt = 4)) with c56 | c56 | c56 | c56 | c56 | c56
    · refine lv_tableOut (tgt := 150) hx hb dX11_queue_56 c56 (by decide) ?_
      refine lv_ldc (v := (-2147483648)) hx hb S.2.2.2.1 (S.2.2.2.2 _ (List.mem_cons_of_mem _ kc_X11_57)) dX11_queue_150 ?_
      exact x_ri hx hb hr hlk hQ (Nat.le_of_ble_eq_true rfl) (Nat.le_of_ble_eq_true rfl) hS dX11_queue_152 G26 ⟨_, rfl, (by rw [hG26]; exact XFr.dput (XFr.call XFr.rf hF1 (xm1 1 rfl (xm1 2 rfl xm0)) (xm1 0 rfl (xm1 1 rfl (xm1 2 rfl (xm1 3 rfl (xm1 4 rfl xm0))))) xm0) (List.mem_of_getElem? (i := 0) rfl)), (by rw [((by decide) : Int32.toInt (-2147483648) = (-2147483648 : Int))] <;> exact (v_X11_queue_152_7 (K := K) (F := F) a G G1 G26 p0 x15 p1 ha oq1 oq1a oq1b t1 t15 c18 z39 z39a c56 (ld_at hG26))), (v_X11_queue_152_8 a G G1 G26 hG26 oq1b)⟩ hT
    · refine lv_tableIn (off := 36) (tgt := 92) hx hb dX11_queue_56 (by rw [c56]; decide) (by rw [c56]; decide) (by rw [c56]; rfl) (by decide) ?_
      refine lv_aload_n hx hb dX11_queue_92 rfl (lv_at hl 1 rfl) ?_
      refine gX11_17 S hK hT ha kf_X11_51 dX11_queue_93 (fun _ _ => ?_)
      refine lv_iload_n hx hb dX11_queue_96 rfl (lv_at hl 2 rfl) ?_
      refine al_0 S hK hT hk9999a ar_43 (by decide) (z_X11_queue_3 p0.toInt x15.toInt ((G1.1 a 19).toInt) t1 t15 c18) dX11_queue_97 (fun x97 hv97 o97 => ?_)
      have hv97 : x97.toInt = (aI (G1.2.1 (F a 17)) (p0.toInt)) := hv97.trans (by rw [(rfl : Int32.toInt p0 = p0.toInt), ((ld_c hG26) : G26.2.1 (F a 17) = G1.2.1 (F a 17))])
      exact x_ri hx hb hr hlk hQ (Nat.le_of_ble_eq_true rfl) (Nat.le_of_ble_eq_true rfl) hS dX11_queue_98 G26 ⟨_, rfl, (by rw [hG26]; exact XFr.dput (XFr.call XFr.rf hF1 (xm1 1 rfl (xm1 2 rfl xm0)) (xm1 0 rfl (xm1 1 rfl (xm1 2 rfl (xm1 3 rfl (xm1 4 rfl xm0))))) xm0) (List.mem_of_getElem? (i := 0) rfl)), (by rw [(hv97 : Int32.toInt x97 = (aI (G1.2.1 (F a 17)) (p0.toInt)))] <;> exact (v_X11_queue_98_9 (K := K) (F := F) a G G1 G26 p0 x15 p1 ha oq1 oq1a oq1b t1 t15 c18 z39 z39a c56 (ld_at hG26))), (v_X11_queue_98_10 a G G1 G26 hG26 oq1b)⟩ hT
    · refine lv_tableIn (off := 43) (tgt := 99) hx hb dX11_queue_56 (by rw [c56]; decide) (by rw [c56]; decide) (by rw [c56]; rfl) (by decide) ?_
      refine lv_aload_n hx hb dX11_queue_99 rfl (lv_at hl 1 rfl) ?_
      refine gX11_18 S hK hT ha kf_X11_54 dX11_queue_100 (fun _ _ => ?_)
      refine lv_iload_n hx hb dX11_queue_103 rfl (lv_at hl 2 rfl) ?_
      refine al_0 S hK hT hk9999b ar_44 (by decide) (z_X11_queue_3 p0.toInt x15.toInt ((G1.1 a 19).toInt) t1 t15 c18) dX11_queue_104 (fun x104 hv104 o104 => ?_)
      have hv104 : x104.toInt = (aI (G1.2.1 (F a 18)) (p0.toInt)) := hv104.trans (by rw [(rfl : Int32.toInt p0 = p0.toInt), ((ld_c hG26) : G26.2.1 (F a 18) = G1.2.1 (F a 18))])
      exact x_ri hx hb hr hlk hQ (Nat.le_of_ble_eq_true rfl) (Nat.le_of_ble_eq_true rfl) hS dX11_queue_105 G26 ⟨_, rfl, (by rw [hG26]; exact XFr.dput (XFr.call XFr.rf hF1 (xm1 1 rfl (xm1 2 rfl xm0)) (xm1 0 rfl (xm1 1 rfl (xm1 2 rfl (xm1 3 rfl (xm1 4 rfl xm0))))) xm0) (List.mem_of_getElem? (i := 0) rfl)), (by rw [(hv104 : Int32.toInt x104 = (aI (G1.2.1 (F a 18)) (p0.toInt)))] <;> exact (v_X11_queue_105_11 (K := K) (F := F) a G G1 G26 p0 x15 p1 ha oq1 oq1a oq1b t1 t15 c18 z39 z39a c56 (ld_at hG26))), (v_X11_queue_105_12 a G G1 G26 hG26 oq1b)⟩ hT
    · refine lv_tableIn (off := 50) (tgt := 106) hx hb dX11_queue_56 (by rw [c56]; decide) (by rw [c56]; decide) (by rw [c56]; rfl) (by decide) ?_
      refine lv_aload_n hx hb dX11_queue_106 rfl (lv_at hl 1 rfl) ?_
      refine gX11_13 S hK hT ha kf_X11_42 dX11_queue_107 (fun _ _ => ?_)
      refine lv_iload_n hx hb dX11_queue_110 rfl (lv_at hl 0 rfl) ?_
      refine al_0 S hK hT hk9999d ar_38 (by decide) (by rw [(t51 : Int32.toInt x51 = 199 * (aI (G1.2.1 (F a 17)) (p0.toInt)) + (aI (G1.2.1 (F a 18)) (p0.toInt)) + 99)]; exact (z_X11_queue_9 (aI (G1.2.1 (F a 17)) (p0.toInt)) (aI (G1.2.1 (F a 18)) (p0.toInt)) (sF (aI (G.2.1 (F a 10)) (10 * (aI (G1.2.1 (F a 17)) (p0.toInt)) + 0))) (sL (aI (G.2.1 (F a 10)) (10 * (aI (G1.2.1 (F a 17)) (p0.toInt)) + 0))) (z39).1 (z39).2.2 (z39a).1 (z39a).2)) dX11_queue_111 (fun x111 hv111 o111 => ?_)
      have hv111 : x111.toInt = (aI (G1.2.1 (F a 13)) (199 * (aI (G1.2.1 (F a 17)) (p0.toInt)) + (aI (G1.2.1 (F a 18)) (p0.toInt)) + 99)) := hv111.trans (by rw [(t51 : Int32.toInt x51 = 199 * (aI (G1.2.1 (F a 17)) (p0.toInt)) + (aI (G1.2.1 (F a 18)) (p0.toInt)) + 99), ((ld_c hG26) : G26.2.1 (F a 13) = G1.2.1 (F a 13))])
      exact x_ri hx hb hr hlk hQ (Nat.le_of_ble_eq_true rfl) (Nat.le_of_ble_eq_true rfl) hS dX11_queue_112 G26 ⟨_, rfl, (by rw [hG26]; exact XFr.dput (XFr.call XFr.rf hF1 (xm1 1 rfl (xm1 2 rfl xm0)) (xm1 0 rfl (xm1 1 rfl (xm1 2 rfl (xm1 3 rfl (xm1 4 rfl xm0))))) xm0) (List.mem_of_getElem? (i := 0) rfl)), (by rw [(hv111 : Int32.toInt x111 = (aI (G1.2.1 (F a 13)) (199 * (aI (G1.2.1 (F a 17)) (p0.toInt)) + (aI (G1.2.1 (F a 18)) (p0.toInt)) + 99)))] <;> exact (v_X11_queue_112_13 (K := K) (F := F) a G G1 G26 p0 x15 p1 ha hk9999 hj9999 hk9999a hj9999a hk9999b hj9999b hk9999c hj9999c hk9999d hj9999d hk9999e hj9999e hk9999f hj9999f hk9999g hj9999g oq1 oq1a oq1b t1 t15 c18 z39 z39a c56 (ld_at hG26))), (v_X11_queue_112_14 a G G1 G26 hG26 oq1b)⟩ hT
    · refine lv_tableIn (off := 57) (tgt := 113) hx hb dX11_queue_56 (by rw [c56]; decide) (by rw [c56]; decide) (by rw [c56]; rfl) (by decide) ?_
      refine lv_aload_n hx hb dX11_queue_113 rfl (lv_at hl 1 rfl) ?_
      refine gX11_11 S hK hT ha kf_X11_36 dX11_queue_114 (fun _ _ => ?_)
      refine lv_iload_n hx hb dX11_queue_117 rfl (lv_at hl 0 rfl) ?_
      refine al_0 S hK hT hk9999c ar_38 (by decide) (by rw [(t51 : Int32.toInt x51 = 199 * (aI (G1.2.1 (F a 17)) (p0.toInt)) + (aI (G1.2.1 (F a 18)) (p0.toInt)) + 99)]; exact (z_X11_queue_9 (aI (G1.2.1 (F a 17)) (p0.toInt)) (aI (G1.2.1 (F a 18)) (p0.toInt)) (sF (aI (G.2.1 (F a 10)) (10 * (aI (G1.2.1 (F a 17)) (p0.toInt)) + 0))) (sL (aI (G.2.1 (F a 10)) (10 * (aI (G1.2.1 (F a 17)) (p0.toInt)) + 0))) (z39).1 (z39).2.2 (z39a).1 (z39a).2)) dX11_queue_118 (fun x118 hv118 o118 => ?_)
      have hv118 : x118.toInt = (aI (G1.2.1 (F a 11)) (199 * (aI (G1.2.1 (F a 17)) (p0.toInt)) + (aI (G1.2.1 (F a 18)) (p0.toInt)) + 99)) := hv118.trans (by rw [(t51 : Int32.toInt x51 = 199 * (aI (G1.2.1 (F a 17)) (p0.toInt)) + (aI (G1.2.1 (F a 18)) (p0.toInt)) + 99), ((ld_c hG26) : G26.2.1 (F a 11) = G1.2.1 (F a 11))])
      exact x_ri hx hb hr hlk hQ (Nat.le_of_ble_eq_true rfl) (Nat.le_of_ble_eq_true rfl) hS dX11_queue_119 G26 ⟨_, rfl, (by rw [hG26]; exact XFr.dput (XFr.call XFr.rf hF1 (xm1 1 rfl (xm1 2 rfl xm0)) (xm1 0 rfl (xm1 1 rfl (xm1 2 rfl (xm1 3 rfl (xm1 4 rfl xm0))))) xm0) (List.mem_of_getElem? (i := 0) rfl)), (by rw [(hv118 : Int32.toInt x118 = (aI (G1.2.1 (F a 11)) (199 * (aI (G1.2.1 (F a 17)) (p0.toInt)) + (aI (G1.2.1 (F a 18)) (p0.toInt)) + 99)))] <;> exact (v_X11_queue_119_15 (K := K) (F := F) a G G1 G26 p0 x15 p1 ha hk9999 hj9999 hk9999a hj9999a hk9999b hj9999b hk9999c hj9999c hk9999d hj9999d hk9999e hj9999e hk9999f hj9999f hk9999g hj9999g oq1 oq1a oq1b t1 t15 c18 z39 z39a c56 (ld_at hG26))), (v_X11_queue_119_16 a G G1 G26 hG26 oq1b)⟩ hT
    · refine lv_tableIn (off := 64) (tgt := 120) hx hb dX11_queue_56 (by rw [c56]; decide) (by rw [c56]; decide) (by rw [c56]; rfl) (by decide) ?_
      refine lv_aload_n hx hb dX11_queue_120 rfl (lv_at hl 1 rfl) ?_
      refine lv_aload_n hx hb dX11_queue_121 rfl (lv_at hl 1 rfl) ?_
      refine gX11_17 S hK hT ha kf_X11_51 dX11_queue_122 (fun _ _ => ?_)
      refine lv_iload_n hx hb dX11_queue_125 rfl (lv_at hl 2 rfl) ?_
      refine al_0 S hK hT hk9999a ar_43 (by decide) (z_X11_queue_3 p0.toInt x15.toInt ((G1.1 a 19).toInt) t1 t15 c18) dX11_queue_126 (fun x126 hv126 o126 => ?_)
      have hv126 : x126.toInt = (aI (G1.2.1 (F a 17)) (p0.toInt)) := hv126.trans (by rw [(rfl : Int32.toInt p0 = p0.toInt), ((ld_c hG26) : G26.2.1 (F a 17) = G1.2.1 (F a 17))])
      refine lv_aload_n hx hb dX11_queue_127 rfl (lv_at hl 1 rfl) ?_
      refine gX11_18 S hK hT ha kf_X11_54 dX11_queue_128 (fun _ _ => ?_)
      refine lv_iload_n hx hb dX11_queue_131 rfl (lv_at hl 2 rfl) ?_
      refine al_0 S hK hT hk9999b ar_44 (by decide) (z_X11_queue_3 p0.toInt x15.toInt ((G1.1 a 19).toInt) t1 t15 c18) dX11_queue_132 (fun x132 hv132 o132 => ?_)
      have hv132 : x132.toInt = (aI (G1.2.1 (F a 18)) (p0.toInt)) := hv132.trans (by rw [(rfl : Int32.toInt p0 = p0.toInt), ((ld_c hG26) : G26.2.1 (F a 18) = G1.2.1 (F a 18))])
      refine lv_aload_n hx hb dX11_queue_133 rfl (lv_at hl 1 rfl) ?_
      refine gX11_1 S hK hT ha kf_X11_9 dX11_queue_134 (fun _ _ => ?_)
      refine lv_iconst (v := 0) hx hb dX11_queue_137 (by decide) ?_
      refine x_clp (x_runV (b := a) (As := [.int x126, .int x132, .ref (F a 1), .int 0]) (rest := []) S (c_X11_fails l E K F G26 H a x126 x132 (F a 1) 0 ha (XO.a hk9999f (by decide)) (by rw [(hv126 : Int32.toInt x126 = (aI (G1.2.1 (F a 17)) (p0.toInt)))] <;> exact ((z39).1)) (by rw [(hv126 : Int32.toInt x126 = (aI (G1.2.1 (F a 17)) (p0.toInt))), (show G26.2.1 (F a 10) = G.2.1 (F a 10) from ((ld_c hG26).trans (hF1.2.1 _ (xn1 (xne_k hk9999e hk9999 (by decide)) (xn1 (xne_k hk9999e hk9999a (by decide)) (xn1 (xne_k hk9999e hk9999b (by decide)) (xn1 (xne_k hk9999e hk9999c (by decide)) (xn1 (xne_k hk9999e hk9999d (by decide)) xn0))))))))] <;> exact ((z39).2.1)) (by rw [(hv126 : Int32.toInt x126 = (aI (G1.2.1 (F a 17)) (p0.toInt))), (hv132 : Int32.toInt x132 = (aI (G1.2.1 (F a 18)) (p0.toInt))), (show G26.2.1 (F a 10) = G.2.1 (F a 10) from ((ld_c hG26).trans (hF1.2.1 _ (xn1 (xne_k hk9999e hk9999 (by decide)) (xn1 (xne_k hk9999e hk9999a (by decide)) (xn1 (xne_k hk9999e hk9999b (by decide)) (xn1 (xne_k hk9999e hk9999c (by decide)) (xn1 (xne_k hk9999e hk9999d (by decide)) xn0))))))))] <;> exact ((z39).2.2)) (v_X11_queue_138_17 (F := F) a G G26 hR ((ld_c hG26).trans (hF1.2.1 _ (xn1 (xne_k hk9999e hk9999 (by decide)) (xn1 (xne_k hk9999e hk9999a (by decide)) (xn1 (xne_k hk9999e hk9999b (by decide)) (xn1 (xne_k hk9999e hk9999c (by decide)) (xn1 (xne_k hk9999e hk9999d (by decide)) xn0)))))))) (v_X11_queue_138_18 (F := F) a G G26 hM hB ((ld_c hG26).trans (hF1.2.1 _ (xn1 (xne_k hk9999f hk9999 (by decide)) (xn1 (xne_k hk9999f hk9999a (by decide)) (xn1 (xne_k hk9999f hk9999b (by decide)) (xn1 (xne_k hk9999f hk9999c (by decide)) (xn1 (xne_k hk9999f hk9999d (by decide)) xn0))))))))) mv_X11_fails km_X11_221 rfl rfl ⟨Nat.le_of_ble_eq_true rfl, Nat.le_of_ble_eq_true rfl⟩ (rc_13 hK hT ha) hK (fun _ => XPh.blind) (fun U hU hW => XPh.at hK hz hS hT hU hW) rfl hl.1 (Nat.le_of_ble_eq_true rfl) dX11_queue_138 ⟨Nat.le_of_ble_eq_true rfl, Nat.le_of_ble_eq_true rfl⟩) hS ?_
      rintro _ _ locs ⟨x138, rfl, b138, t138⟩ hS
      have t138 : x138.toInt = (flq (mw (G.2.1 (F a 1)) 0) (aI (G.2.1 (F a 10)) (10 * (aI (G1.2.1 (F a 17)) (p0.toInt)) + 0)) (aI (G.2.1 (F a 10)) (10 * (aI (G1.2.1 (F a 17)) (p0.toInt)) + 1)) (aI (G.2.1 (F a 10)) (10 * (aI (G1.2.1 (F a 17)) (p0.toInt)) + 2)) (aI (G.2.1 (F a 10)) (10 * (aI (G1.2.1 (F a 17)) (p0.toInt)) + 4)) (aI (G.2.1 (F a 10)) (10 * (aI (G1.2.1 (F a 17)) (p0.toInt)) + 5)) (aI (G1.2.1 (F a 18)) (p0.toInt)) (stt (mw (G.2.1 (F a 1)) 0) (aI (G.2.1 (F a 10)) (10 * (aI (G1.2.1 (F a 17)) (p0.toInt)) + 0)) (aI (G.2.1 (F a 10)) (10 * (aI (G1.2.1 (F a 17)) (p0.toInt)) + 1)) (aI (G.2.1 (F a 10)) (10 * (aI (G1.2.1 (F a 17)) (p0.toInt)) + 2)) (aI (G.2.1 (F a 10)) (10 * (aI (G1.2.1 (F a 17)) (p0.toInt)) + 3)) (aI (G1.2.1 (F a 18)) (p0.toInt)))) := by rw [(hv126 : Int32.toInt x126 = (aI (G1.2.1 (F a 17)) (p0.toInt)))] at t138; rw [(hv132 : Int32.toInt x132 = (aI (G1.2.1 (F a 18)) (p0.toInt)))] at t138; rw [(show G26.2.1 (F a 1) = G.2.1 (F a 1) from ((ld_c hG26).trans (hF1.2.1 _ (xn1 (xne_k hk9999f hk9999 (by decide)) (xn1 (xne_k hk9999f hk9999a (by decide)) (xn1 (xne_k hk9999f hk9999b (by decide)) (xn1 (xne_k hk9999f hk9999c (by decide)) (xn1 (xne_k hk9999f hk9999d (by decide)) xn0))))))))] at t138; rw [(show G26.2.1 (F a 10) = G.2.1 (F a 10) from ((ld_c hG26).trans (hF1.2.1 _ (xn1 (xne_k hk9999e hk9999 (by decide)) (xn1 (xne_k hk9999e hk9999a (by decide)) (xn1 (xne_k hk9999e hk9999b (by decide)) (xn1 (xne_k hk9999e hk9999c (by decide)) (xn1 (xne_k hk9999e hk9999d (by decide)) xn0))))))))] at t138; exact t138
      refine xi_zeq (tgt := 148) hx hb (rfl : Int32.toInt x138 = x138.toInt) dX11_queue_141 (by decide) (fun c141 => ?_) (fun c141 => ?_)
      · refine lv_iconst (v := 0) hx hb dX11_queue_148 (by decide) ?_
        exact x_ri hx hb hr hlk hQ (Nat.le_of_ble_eq_true rfl) (Nat.le_of_ble_eq_true rfl) hS dX11_queue_149 G26 ⟨_, rfl, (by rw [hG26]; exact XFr.dput (XFr.call XFr.rf hF1 (xm1 1 rfl (xm1 2 rfl xm0)) (xm1 0 rfl (xm1 1 rfl (xm1 2 rfl (xm1 3 rfl (xm1 4 rfl xm0))))) xm0) (List.mem_of_getElem? (i := 0) rfl)), (v_X11_queue_149_19 (K := K) (F := F) a G G1 G26 p0 x15 p1 x138 ha oq1 oq1a oq1b t1 t15 c18 z39 z39a c56 t138 (xzi b138) c141 (ld_at hG26)), (v_X11_queue_149_20 a G G1 G26 hG26 oq1b)⟩ hT
      · refine lv_iconst (v := 1) hx hb dX11_queue_144 (by decide) ?_
        refine lv_goto (tgt := 149) hx hb dX11_queue_145 (by decide) ?_
        exact x_ri hx hb hr hlk hQ (Nat.le_of_ble_eq_true rfl) (Nat.le_of_ble_eq_true rfl) hS dX11_queue_149 G26 ⟨_, rfl, (by rw [hG26]; exact XFr.dput (XFr.call XFr.rf hF1 (xm1 1 rfl (xm1 2 rfl xm0)) (xm1 0 rfl (xm1 1 rfl (xm1 2 rfl (xm1 3 rfl (xm1 4 rfl xm0))))) xm0) (List.mem_of_getElem? (i := 0) rfl)), (v_X11_queue_149_21 (K := K) (F := F) a G G1 G26 p0 x15 p1 x138 ha oq1 oq1a oq1b t1 t15 c18 z39 z39a c56 t138 (xzi b138) c141 (ld_at hG26)), (v_X11_queue_149_22 a G G1 G26 hG26 oq1b)⟩ hT

theorem z_X11_first_1 (a0 : Int) (h0 : -2147483648 ≤ a0 ∧ a0 < 2147483648) : ¬ (2147483648 - a0 < ((0 : Nat) : Int)) := by omega
theorem z_X11_first_2 (a0 : Int) (h0 : 0 ≤ a0 ∧ a0 ≤ 2388) : 0 ≤ a0 ∧ a0 ≤ 2400 := by omega
theorem z_X11_first_3 (a0 : Int) (a1 : Int) (h0 : 0 ≤ a1 ∧ a1 ≤ 2388) (h1 : -1 ≤ a0 ∧ a0 < a1) (h2 : a0 ≠ (-1 : Int)) : 0 ≤ a0 ∧ a0 < ((2400 : Nat) : Int) := by omega
theorem z_X11_first_5 (a0 : Int) (a1 : Int) (h0 : 0 ≤ a0) (h1 : ¬ (a1 ≤ a0)) : 0 ≤ a0 ∧ a0 < a1 := by omega
theorem z_X11_first_6 (a0 : Int) (a1 : Int) (h0 : 0 ≤ a1 ∧ a1 ≤ 2388) (h1 : 0 ≤ a0) (h2 : ¬ (a1 ≤ a0)) : 0 ≤ a0 ∧ a0 < ((2400 : Nat) : Int) := by omega
theorem z_X11_first_11 (a0 : Int) (a1 : Int) (a2 : Int) (h0 : 0 ≤ a2 ∧ a2 ≤ 2388) (h1 : 0 ≤ a0) (h2 : ¬ (a2 ≤ a0)) (h3 : a1 = (a0 + 1) ∨ (a0 + 1) < -2147483648 ∨ 2147483648 ≤ (a0 + 1)) : a1 = (a0 + 1) := by omega
theorem z_X11_first_12 (a0 : Int) (h0 : 0 ≤ a0) : 0 ≤ (a0 + 1) := by omega
theorem z_X11_first_13 (a0 : Int) (h0 : 0 ≤ a0) : (0 : Int) ≤ (a0 + 1) := by omega
theorem z_X11_first_14 (a0 : Int) (a1 : Nat) (h0 : 2147483648 - a0 < ((a1 + 1 : Nat) : Int)) : 2147483648 - (a0 + 1) < ((a1 : Nat) : Int) := by omega
abbrev rm_X11_first : Room := { frames := 5, cells := 0, slots := 0, locals := 125 }
set_option maxHeartbeats 4000000 in
set_option maxRecDepth 100000 in
theorem c_X11_first (l : Launch) (E : XE) (K : Nat → Nat) (F : Nat → Nat → Nat) (G : XG) (a : Nat) (p0 : Int32) (ha : K a = 13) (hR : RV (G.2.1 (F a 10))) (hM : RM (G.2.1 (F a 1)) (0)) (hB : RM (G.2.1 (F a 2)) 0) : Met l yX11_first (xw yX11_first cX11_first 4 (some .int)) rm_X11_first (va_Pc [.ref a, .int p0] (XP E K F G)) (XQ E (fun v (u : XG) => ∃ r : Int32, v = .int r ∧ XFr [(a, 0), (a, 16), (a, 19)] [F a 15, F a 17, F a 18, F a 11, F a 13] [] G u) (fun u H => TW E K F u H)) 0 0 (xA E) := by
  refine x_enter (by decide) (Nat.le_of_ble_eq_true rfl) ?_
  intro p e s m args below meth c Q S hr hlk hnm hQ hP ls hl
  obtain ⟨hz, hK, hT⟩ := hP
  obtain ⟨hx, hb, -, -, -⟩ := id S
  obtain ⟨H, hT, hS, hgo⟩ : ∃ H : Heap, TW E K F G H ∧ va_S (xA E) s.heap H [] ∧ H = s.heap := ⟨_, hT, va_S.rf, rfl⟩
  rw [← hgo]
  have hl : lv_has ls 4 [(0, .ref a), (1, .int p0)] := hl
  obtain ⟨hk9999, hj9999⟩ := fkX11_15 hT ha
  obtain ⟨hk9999a, hj9999a⟩ := fkX11_17 hT ha
  obtain ⟨hk9999b, hj9999b⟩ := fkX11_18 hT ha
  obtain ⟨hk9999c, hj9999c⟩ := fkX11_11 hT ha
  obtain ⟨hk9999d, hj9999d⟩ := fkX11_13 hT ha
  obtain ⟨hk9999e, hj9999e⟩ := fkX11_10 hT ha
  obtain ⟨hk9999f, hj9999f⟩ := fkX11_1 hT ha
  obtain ⟨hk9999g, hj9999g⟩ := fkX11_2 hT ha
  refine lv_aload_n hx hb dX11_first_0 rfl (lv_at hl 0 rfl) ?_
  refine lv_iconst (v := 0) hx hb dX11_first_1 (by decide) ?_
  refine pX11_0 (v := 0) S hK hT hS ha kf_X11_134 dX11_first_2 (fun H locs hT hS => ?_)
  obtain ⟨G2, hG2⟩ : ∃ GG : XG, GG = dput G a 0 0 := ⟨_, rfl⟩
  rw [← hG2] at hT
  refine lv_iload_n hx hb dX11_first_5 rfl (lv_at hl 1 rfl) ?_
  refine lv_i2l (v := p0.toInt64) hx hb dX11_first_6 rfl ?_
  refine lv_lconst (v := (0 : Int64)) hx hb dX11_first_7 (by decide) ?_
  refine lv_ldc2 (v := 3) hx hb S.2.2.2.1 (S.2.2.2.2 _ (List.mem_cons_of_mem _ kc_X11_387)) dX11_first_8 ?_
  refine x_clp (x_runS (As := [.long p0.toInt64, .long (0 : Int64), .long (3 : Int64)]) (rest := []) S (c_X11_in l E K F G2 H p0.toInt64 p0.toInt (0 : Int64) (0 : Int) (3 : Int64) (3 : Int) (xl_i2l (rfl : Int32.toInt p0 = p0.toInt)) (by decide) (by decide)) ms_X11_in km_X11_139 rfl rfl ⟨Nat.le_of_ble_eq_true rfl, Nat.le_of_ble_eq_true rfl⟩ hK (fun _ => XPh.blind) (fun U hU hW => XPh.at hK hz hS hT hU hW) rfl hl.1 (Nat.le_of_ble_eq_true rfl) dX11_first_11 ⟨Nat.le_of_ble_eq_true rfl, Nat.le_of_ble_eq_true rfl⟩) hS ?_
  rintro _ _ locs ⟨x11, rfl, b11, t11⟩ hS
  have t11 : (x11.toInt = 1 ∧ (0 : Int) ≤ p0.toInt ∧ p0.toInt ≤ (3 : Int)) ∨ (x11.toInt = 0 ∧ (p0.toInt < (0 : Int) ∨ (3 : Int) < p0.toInt)) := t11
  refine xi_zne (tgt := 20) hx hb (rfl : Int32.toInt x11 = x11.toInt) dX11_first_14 (by decide) (fun c14 => ?_) (fun c14 => ?_)
  · refine lv_aload_n hx hb dX11_first_20 rfl (lv_at hl 0 rfl) ?_
    refine gX11_6 S hK hT ha kf_X11_206 dX11_first_21 (v := (G.1 a 6)) (ld_j hG2 (by decide)) (fun hz21 => ?_)
    refine xi_zne (tgt := 29) hx hb (rfl : Int32.toInt (G.1 a 6) = ((G.1 a 6).toInt)) dX11_first_24 (by decide) (fun c24 => ?_) (fun c24 => ?_)
    · refine lv_aload_n hx hb dX11_first_29 rfl (lv_at hl 0 rfl) ?_
      refine x_cv0 (x_runV (b := a) (As := []) (rest := []) S (c_X11_findQueue l E K F G2 a ha (v_X11_first_30_1 (F := F) a G2 G hR (ld_c hG2)) (v_X11_first_30_2 (F := F) a G2 G hM hB (ld_c hG2)) (v_X11_first_30_3 (F := F) a G2 G hM hB (ld_c hG2))) mv_X11_findQueue km_X11_218 rfl rfl ⟨Nat.le_of_ble_eq_true rfl, Nat.le_of_ble_eq_true rfl⟩ (rc_13 hK hT ha) hK (fun _ => XP.blind) (fun U hU hW => XP.at hK hz hS hT hU hW) rfl hl.1 (Nat.le_of_ble_eq_true rfl) dX11_first_30 ⟨Nat.le_of_ble_eq_true rfl, Nat.le_of_ble_eq_true rfl⟩) hS ?_
      rintro G30 H locs ⟨hF30, t30, oq30, oq30a, oq30b⟩ hT hS
      have t30 : 0 ≤ ((G30.1 a 19).toInt) ∧ ((G30.1 a 19).toInt) ≤ 2388 := t30
      have oq30 : pL G30 F a = if ((G.1 a 6).toInt) = 0 then [] else fuO (G.2.1 (F a 10)) (mw (G.2.1 (F a 1)) 0) (mw (G.2.1 (F a 2)) 0) 1 := by simp only [(show G2.1 a 6 = G.1 a 6 from (ld_j hG2 (by decide))), (show G2.2.1 (F a 10) = G.2.1 (F a 10) from (ld_c hG2)), (show G2.2.1 (F a 1) = G.2.1 (F a 1) from (ld_c hG2)), (show G2.2.1 (F a 2) = G.2.1 (F a 2) from (ld_c hG2))] at oq30; exact oq30
      have oq30a : ((G.1 a 6).toInt) ≠ 0 → LSt (G.2.1 (F a 10)) (G30.2.1 (F a 11)) (mw (G.2.1 (F a 1)) 0) 12 ∧ LSt (G.2.1 (F a 10)) (G30.2.1 (F a 13)) (mw (G.2.1 (F a 2)) 0) 12 := by simp only [(show G2.1 a 6 = G.1 a 6 from (ld_j hG2 (by decide))), (show G2.2.1 (F a 10) = G.2.1 (F a 10) from (ld_c hG2)), (show G2.2.1 (F a 1) = G.2.1 (F a 1) from (ld_c hG2)), (show G2.2.1 (F a 2) = G.2.1 (F a 2) from (ld_c hG2))] at oq30a; exact oq30a
      have hvq : PV (G.2.1 (F a 10)) (pL G30 F a) := (v_X11_first_33_4 (F := F) G30 a G oq30)
      refine lv_iconst (v := 0) hx hb dX11_first_33 (by decide) ?_
      refine lv_istore_n (lv' := [(2, .int 0), (0, .ref a), (1, .int p0)]) hx hb dX11_first_34 rfl hl (by decide) rfl (fun ls hl => ?_)
      refine lv_iconst (v := 0) hx hb dX11_first_35 (by decide) ?_
      refine lv_istore_n (lv' := [(3, .int 0), (2, .int 0), (0, .ref a), (1, .int p0)]) hx hb dX11_first_36 rfl hl (by decide) rfl (fun ls hl => ?_)
      have L37 : ∀ (N37 : Nat) (l2_37 : Int32) (l3_37 : Int32) (H : Heap) (locs : List Loc) (ls : Array Slot), 0 ≤ l3_37.toInt → (0 : Int) ≤ l3_37.toInt → 2147483648 - l3_37.toInt < ((N37 : Nat) : Int) → TW E K F G30 H → va_S (xA E) s.heap H locs → lv_has ls 4 [(0, .ref a), (1, .int p0), (2, .int l2_37), (3, .int l3_37)] → W p l e rm_X11_first s m args below meth c H locs 0 0 Q (F0 m 37 ls []) := by
        intro N37
        induction N37 with
        | zero =>
          intro l2_37 l3_37 H locs ls I37_0 I37_1 hm37
          exact absurd hm37 (z_X11_first_1 l3_37.toInt (xr l3_37))
        | succ N37 ih37 =>
          intro l2_37 l3_37 H locs ls I37_0 I37_1 hm37 hT hS hl
          refine lv_iload_n hx hb dX11_first_37 rfl (lv_at hl 3 rfl) ?_
          refine lv_aload_n hx hb dX11_first_38 rfl (lv_at hl 0 rfl) ?_
          refine gX11_19 S hK hT ha kf_X11_203 dX11_first_39 (v := (G30.1 a 19)) rfl (?_)
          refine xi_cge (tgt := 83) hx hb (rfl : Int32.toInt l3_37 = l3_37.toInt) (rfl : Int32.toInt (G30.1 a 19) = ((G30.1 a 19).toInt)) dX11_first_42 (by decide) (fun c42 => ?_) (fun c42 => ?_)
          · refine lv_aload_n hx hb dX11_first_83 rfl (lv_at hl 0 rfl) ?_
            refine x_clp (x_runV (b := a) (As := []) (rest := []) S (c_X11_firstFailing l E K F G30 H a ha (z_X11_first_2 ((G30.1 a 19).toInt) t30) (v_X11_first_84_5 (F := F) a G G30 hR ((hF30.2.1 _ (xn1 (xne_k hk9999e hk9999 (by decide)) (xn1 (xne_k hk9999e hk9999a (by decide)) (xn1 (xne_k hk9999e hk9999b (by decide)) (xn1 (xne_k hk9999e hk9999c (by decide)) (xn1 (xne_k hk9999e hk9999d (by decide)) xn0)))))).trans (ld_c hG2))) (v_X11_first_84_6 (F := F) a G G30 hM hB ((hF30.2.1 _ (xn1 (xne_k hk9999f hk9999 (by decide)) (xn1 (xne_k hk9999f hk9999a (by decide)) (xn1 (xne_k hk9999f hk9999b (by decide)) (xn1 (xne_k hk9999f hk9999c (by decide)) (xn1 (xne_k hk9999f hk9999d (by decide)) xn0)))))).trans (ld_c hG2))) (v_X11_first_84_7 (F := F) G a G30 hvq ((hF30.2.1 _ (xn1 (xne_k hk9999e hk9999 (by decide)) (xn1 (xne_k hk9999e hk9999a (by decide)) (xn1 (xne_k hk9999e hk9999b (by decide)) (xn1 (xne_k hk9999e hk9999c (by decide)) (xn1 (xne_k hk9999e hk9999d (by decide)) xn0)))))).trans (ld_c hG2)))) mv_X11_firstFailing km_X11_313 rfl rfl ⟨Nat.le_of_ble_eq_true rfl, Nat.le_of_ble_eq_true rfl⟩ (rc_13 hK hT ha) hK (fun _ => XPh.blind) (fun U hU hW => XPh.at hK hz hS hT hU hW) rfl hl.1 (Nat.le_of_ble_eq_true rfl) dX11_first_84 ⟨Nat.le_of_ble_eq_true rfl, Nat.le_of_ble_eq_true rfl⟩) hS ?_
            rintro _ _ locs ⟨x84, rfl, t84, oq84⟩ hS
            have t84 : -1 ≤ x84.toInt ∧ x84.toInt < ((G30.1 a 19).toInt) := t84
            have oq84 : x84.toInt = ffP (G.2.1 (F a 10)) (mw (G.2.1 (F a 1)) 0) (pL G30 F a) := by simp only [(show G30.2.1 (F a 10) = G.2.1 (F a 10) from ((hF30.2.1 _ (xn1 (xne_k hk9999e hk9999 (by decide)) (xn1 (xne_k hk9999e hk9999a (by decide)) (xn1 (xne_k hk9999e hk9999b (by decide)) (xn1 (xne_k hk9999e hk9999c (by decide)) (xn1 (xne_k hk9999e hk9999d (by decide)) xn0)))))).trans (ld_c hG2))), (show G30.2.1 (F a 1) = G.2.1 (F a 1) from ((hF30.2.1 _ (xn1 (xne_k hk9999f hk9999 (by decide)) (xn1 (xne_k hk9999f hk9999a (by decide)) (xn1 (xne_k hk9999f hk9999b (by decide)) (xn1 (xne_k hk9999f hk9999c (by decide)) (xn1 (xne_k hk9999f hk9999d (by decide)) xn0)))))).trans (ld_c hG2)))] at oq84; exact oq84
            refine lv_istore_n (lv' := [(3, .int x84), (0, .ref a), (1, .int p0), (2, .int l2_37)]) hx hb dX11_first_87 rfl hl (by decide) rfl (fun ls hl => ?_)
            refine lv_iload_n hx hb dX11_first_88 rfl (lv_at hl 2 rfl) ?_
            refine lv_iconst (v := 3) hx hb dX11_first_89 (by decide) ?_
            refine xi_cne (tgt := 97) hx hb (rfl : Int32.toInt p0 = p0.toInt) ((by decide) : Int32.toInt 3 = (3 : Int)) dX11_first_90 (by decide) (fun c90 => ?_) (fun c90 => ?_)
            · refine lv_iload_n hx hb dX11_first_97 rfl (lv_at hl 0 rfl) ?_
              refine lv_iconst (v := (-1)) hx hb dX11_first_98 (by decide) ?_
              refine xi_cne (tgt := 106) hx hb (rfl : Int32.toInt x84 = x84.toInt) ((by decide) : Int32.toInt (-1) = (-1 : Int)) dX11_first_99 (by decide) (fun c99 => ?_) (fun c99 => ?_)
              · refine lv_iload_n hx hb dX11_first_106 rfl (lv_at hl 2 rfl) ?_
                refine xi_zne (tgt := 119) hx hb (rfl : Int32.toInt p0 = p0.toInt) dX11_first_107 (by decide) (fun c107 => ?_) (fun c107 => ?_)
                · refine lv_iload_n hx hb dX11_first_119 rfl (lv_at hl 2 rfl) ?_
                  refine lv_iconst (v := 1) hx hb dX11_first_120 (by decide) ?_
                  refine xi_cne (tgt := 133) hx hb (rfl : Int32.toInt p0 = p0.toInt) ((by decide) : Int32.toInt 1 = (1 : Int)) dX11_first_121 (by decide) (fun c121 => ?_) (fun c121 => ?_)
                  · refine lv_iload_n hx hb dX11_first_133 rfl (lv_at hl 0 rfl) ?_
                    exact x_ri hx hb hr hlk hQ (Nat.le_of_ble_eq_true rfl) (Nat.le_of_ble_eq_true rfl) hS dX11_first_134 G30 ⟨_, rfl, (XFr.call (by rw [hG2]; exact XFr.dput XFr.rf (List.mem_of_getElem? (i := 0) rfl)) hF30 (xm1 1 rfl (xm1 2 rfl xm0)) (xm1 0 rfl (xm1 1 rfl (xm1 2 rfl (xm1 3 rfl (xm1 4 rfl xm0))))) xm0)⟩ hT
                  · refine lv_aload_n hx hb dX11_first_124 rfl (lv_at hl 1 rfl) ?_
                    refine gX11_18 S hK hT ha kf_X11_54 dX11_first_125 (fun _ _ => ?_)
                    refine lv_iload_n hx hb dX11_first_128 rfl (lv_at hl 0 rfl) ?_
                    refine al_0 S hK hT hk9999b ar_44 (by decide) (z_X11_first_3 x84.toInt ((G30.1 a 19).toInt) t30 t84 c99) dX11_first_129 (fun x129 hv129 o129 => ?_)
                    have hv129 : x129.toInt = (aI (G30.2.1 (F a 18)) (x84.toInt)) := hv129.trans (by rw [(rfl : Int32.toInt x84 = x84.toInt)])
                    refine lv_goto (tgt := 134) hx hb dX11_first_130 (by decide) ?_
                    exact x_ri hx hb hr hlk hQ (Nat.le_of_ble_eq_true rfl) (Nat.le_of_ble_eq_true rfl) hS dX11_first_134 G30 ⟨_, rfl, (XFr.call (by rw [hG2]; exact XFr.dput XFr.rf (List.mem_of_getElem? (i := 0) rfl)) hF30 (xm1 1 rfl (xm1 2 rfl xm0)) (xm1 0 rfl (xm1 1 rfl (xm1 2 rfl (xm1 3 rfl (xm1 4 rfl xm0))))) xm0)⟩ hT
                · refine lv_aload_n hx hb dX11_first_110 rfl (lv_at hl 1 rfl) ?_
                  refine gX11_17 S hK hT ha kf_X11_51 dX11_first_111 (fun _ _ => ?_)
                  refine lv_iload_n hx hb dX11_first_114 rfl (lv_at hl 0 rfl) ?_
                  refine al_0 S hK hT hk9999a ar_43 (by decide) (z_X11_first_3 x84.toInt ((G30.1 a 19).toInt) t30 t84 c99) dX11_first_115 (fun x115 hv115 o115 => ?_)
                  have hv115 : x115.toInt = (aI (G30.2.1 (F a 17)) (x84.toInt)) := hv115.trans (by rw [(rfl : Int32.toInt x84 = x84.toInt)])
                  refine lv_goto (tgt := 134) hx hb dX11_first_116 (by decide) ?_
                  exact x_ri hx hb hr hlk hQ (Nat.le_of_ble_eq_true rfl) (Nat.le_of_ble_eq_true rfl) hS dX11_first_134 G30 ⟨_, rfl, (XFr.call (by rw [hG2]; exact XFr.dput XFr.rf (List.mem_of_getElem? (i := 0) rfl)) hF30 (xm1 1 rfl (xm1 2 rfl xm0)) (xm1 0 rfl (xm1 1 rfl (xm1 2 rfl (xm1 3 rfl (xm1 4 rfl xm0))))) xm0)⟩ hT
              · refine lv_iconst (v := (-1)) hx hb dX11_first_102 (by decide) ?_
                refine lv_goto (tgt := 134) hx hb dX11_first_103 (by decide) ?_
                exact x_ri hx hb hr hlk hQ (Nat.le_of_ble_eq_true rfl) (Nat.le_of_ble_eq_true rfl) hS dX11_first_134 G30 ⟨_, rfl, (XFr.call (by rw [hG2]; exact XFr.dput XFr.rf (List.mem_of_getElem? (i := 0) rfl)) hF30 (xm1 1 rfl (xm1 2 rfl xm0)) (xm1 0 rfl (xm1 1 rfl (xm1 2 rfl (xm1 3 rfl (xm1 4 rfl xm0))))) xm0)⟩ hT
            · refine lv_iload_n hx hb dX11_first_93 rfl (lv_at hl 3 rfl) ?_
              refine lv_goto (tgt := 134) hx hb dX11_first_94 (by decide) ?_
              exact x_ri hx hb hr hlk hQ (Nat.le_of_ble_eq_true rfl) (Nat.le_of_ble_eq_true rfl) hS dX11_first_134 G30 ⟨_, rfl, (XFr.call (by rw [hG2]; exact XFr.dput XFr.rf (List.mem_of_getElem? (i := 0) rfl)) hF30 (xm1 1 rfl (xm1 2 rfl xm0)) (xm1 0 rfl (xm1 1 rfl (xm1 2 rfl (xm1 3 rfl (xm1 4 rfl xm0))))) xm0)⟩ hT
          · have z45 : (0 ≤ (aI (G30.2.1 (F a 17)) (l3_37.toInt)) ∧ (aI (G30.2.1 (F a 17)) (l3_37.toInt)) ≤ 11) ∧ (aI (G.2.1 (F a 10)) (10 * (aI (G30.2.1 (F a 17)) (l3_37.toInt)) + 0)) ≠ -1 ∧ ((sF (aI (G.2.1 (F a 10)) (10 * (aI (G30.2.1 (F a 17)) (l3_37.toInt)) + 0))) ≤ (aI (G30.2.1 (F a 18)) (l3_37.toInt)) ∧ (aI (G30.2.1 (F a 18)) (l3_37.toInt)) ≤ (sL (aI (G.2.1 (F a 10)) (10 * (aI (G30.2.1 (F a 17)) (l3_37.toInt)) + 0)))) := pv_at hvq (z_X11_first_5 l3_37.toInt ((G30.1 a 19).toInt) I37_0 c42)
            have z45a : ((sF (aI (G.2.1 (F a 10)) (10 * (aI (G30.2.1 (F a 17)) (l3_37.toInt)) + 0))) = 0 ∨ (sF (aI (G.2.1 (F a 10)) (10 * (aI (G30.2.1 (F a 17)) (l3_37.toInt)) + 0))) = -99) ∧ ((sL (aI (G.2.1 (F a 10)) (10 * (aI (G30.2.1 (F a 17)) (l3_37.toInt)) + 0))) = 29 ∨ (sL (aI (G.2.1 (F a 10)) (10 * (aI (G30.2.1 (F a 17)) (l3_37.toInt)) + 0))) = 99) := sFLb _
            refine lv_iload_n hx hb dX11_first_45 rfl (lv_at hl 2 rfl) ?_
            refine lv_aload_n hx hb dX11_first_46 rfl (lv_at hl 0 rfl) ?_
            refine lv_aload_n hx hb dX11_first_47 rfl (lv_at hl 0 rfl) ?_
            refine gX11_17 S hK hT ha kf_X11_51 dX11_first_48 (fun _ _ => ?_)
            refine lv_iload_n hx hb dX11_first_51 rfl (lv_at hl 3 rfl) ?_
            refine al_0 S hK hT hk9999a ar_43 (by decide) (z_X11_first_6 l3_37.toInt ((G30.1 a 19).toInt) t30 I37_0 c42) dX11_first_52 (fun x52 hv52 o52 => ?_)
            have hv52 : x52.toInt = (aI (G30.2.1 (F a 17)) (l3_37.toInt)) := hv52.trans (by rw [(rfl : Int32.toInt l3_37 = l3_37.toInt)])
            refine lv_aload_n hx hb dX11_first_53 rfl (lv_at hl 0 rfl) ?_
            refine gX11_18 S hK hT ha kf_X11_54 dX11_first_54 (fun _ _ => ?_)
            refine lv_iload_n hx hb dX11_first_57 rfl (lv_at hl 3 rfl) ?_
            refine al_0 S hK hT hk9999b ar_44 (by decide) (z_X11_first_6 l3_37.toInt ((G30.1 a 19).toInt) t30 I37_0 c42) dX11_first_58 (fun x58 hv58 o58 => ?_)
            have hv58 : x58.toInt = (aI (G30.2.1 (F a 18)) (l3_37.toInt)) := hv58.trans (by rw [(rfl : Int32.toInt l3_37 = l3_37.toInt)])
            refine lv_aload_n hx hb dX11_first_59 rfl (lv_at hl 0 rfl) ?_
            refine gX11_1 S hK hT ha kf_X11_9 dX11_first_60 (fun _ _ => ?_)
            refine lv_iconst (v := 0) hx hb dX11_first_63 (by decide) ?_
            refine x_clp (x_runV (b := a) (As := [.int x52, .int x58, .ref (F a 1), .int 0]) (rest := [.int l2_37]) S (c_X11_fails l E K F G30 H a x52 x58 (F a 1) 0 ha (XO.a hk9999f (by decide)) (by rw [(hv52 : Int32.toInt x52 = (aI (G30.2.1 (F a 17)) (l3_37.toInt)))] <;> exact ((z45).1)) (by rw [(hv52 : Int32.toInt x52 = (aI (G30.2.1 (F a 17)) (l3_37.toInt))), (show G30.2.1 (F a 10) = G.2.1 (F a 10) from ((hF30.2.1 _ (xn1 (xne_k hk9999e hk9999 (by decide)) (xn1 (xne_k hk9999e hk9999a (by decide)) (xn1 (xne_k hk9999e hk9999b (by decide)) (xn1 (xne_k hk9999e hk9999c (by decide)) (xn1 (xne_k hk9999e hk9999d (by decide)) xn0)))))).trans (ld_c hG2)))] <;> exact ((z45).2.1)) (by rw [(hv52 : Int32.toInt x52 = (aI (G30.2.1 (F a 17)) (l3_37.toInt))), (hv58 : Int32.toInt x58 = (aI (G30.2.1 (F a 18)) (l3_37.toInt))), (show G30.2.1 (F a 10) = G.2.1 (F a 10) from ((hF30.2.1 _ (xn1 (xne_k hk9999e hk9999 (by decide)) (xn1 (xne_k hk9999e hk9999a (by decide)) (xn1 (xne_k hk9999e hk9999b (by decide)) (xn1 (xne_k hk9999e hk9999c (by decide)) (xn1 (xne_k hk9999e hk9999d (by decide)) xn0)))))).trans (ld_c hG2)))] <;> exact ((z45).2.2)) (v_X11_first_64_8 (F := F) a G G30 hR ((hF30.2.1 _ (xn1 (xne_k hk9999e hk9999 (by decide)) (xn1 (xne_k hk9999e hk9999a (by decide)) (xn1 (xne_k hk9999e hk9999b (by decide)) (xn1 (xne_k hk9999e hk9999c (by decide)) (xn1 (xne_k hk9999e hk9999d (by decide)) xn0)))))).trans (ld_c hG2))) (v_X11_first_64_9 (F := F) a G G30 hM hB ((hF30.2.1 _ (xn1 (xne_k hk9999f hk9999 (by decide)) (xn1 (xne_k hk9999f hk9999a (by decide)) (xn1 (xne_k hk9999f hk9999b (by decide)) (xn1 (xne_k hk9999f hk9999c (by decide)) (xn1 (xne_k hk9999f hk9999d (by decide)) xn0)))))).trans (ld_c hG2)))) mv_X11_fails km_X11_221 rfl rfl ⟨Nat.le_of_ble_eq_true rfl, Nat.le_of_ble_eq_true rfl⟩ (rc_13 hK hT ha) hK (fun _ => XPh.blind) (fun U hU hW => XPh.at hK hz hS hT hU hW) rfl hl.1 (Nat.le_of_ble_eq_true rfl) dX11_first_64 ⟨Nat.le_of_ble_eq_true rfl, Nat.le_of_ble_eq_true rfl⟩) hS ?_
            rintro _ _ locs ⟨x64, rfl, b64, t64⟩ hS
            have t64 : x64.toInt = (flq (mw (G.2.1 (F a 1)) 0) (aI (G.2.1 (F a 10)) (10 * (aI (G30.2.1 (F a 17)) (l3_37.toInt)) + 0)) (aI (G.2.1 (F a 10)) (10 * (aI (G30.2.1 (F a 17)) (l3_37.toInt)) + 1)) (aI (G.2.1 (F a 10)) (10 * (aI (G30.2.1 (F a 17)) (l3_37.toInt)) + 2)) (aI (G.2.1 (F a 10)) (10 * (aI (G30.2.1 (F a 17)) (l3_37.toInt)) + 4)) (aI (G.2.1 (F a 10)) (10 * (aI (G30.2.1 (F a 17)) (l3_37.toInt)) + 5)) (aI (G30.2.1 (F a 18)) (l3_37.toInt)) (stt (mw (G.2.1 (F a 1)) 0) (aI (G.2.1 (F a 10)) (10 * (aI (G30.2.1 (F a 17)) (l3_37.toInt)) + 0)) (aI (G.2.1 (F a 10)) (10 * (aI (G30.2.1 (F a 17)) (l3_37.toInt)) + 1)) (aI (G.2.1 (F a 10)) (10 * (aI (G30.2.1 (F a 17)) (l3_37.toInt)) + 2)) (aI (G.2.1 (F a 10)) (10 * (aI (G30.2.1 (F a 17)) (l3_37.toInt)) + 3)) (aI (G30.2.1 (F a 18)) (l3_37.toInt)))) := by rw [(hv52 : Int32.toInt x52 = (aI (G30.2.1 (F a 17)) (l3_37.toInt)))] at t64; rw [(hv58 : Int32.toInt x58 = (aI (G30.2.1 (F a 18)) (l3_37.toInt)))] at t64; rw [(show G30.2.1 (F a 1) = G.2.1 (F a 1) from ((hF30.2.1 _ (xn1 (xne_k hk9999f hk9999 (by decide)) (xn1 (xne_k hk9999f hk9999a (by decide)) (xn1 (xne_k hk9999f hk9999b (by decide)) (xn1 (xne_k hk9999f hk9999c (by decide)) (xn1 (xne_k hk9999f hk9999d (by decide)) xn0)))))).trans (ld_c hG2)))] at t64; rw [(show G30.2.1 (F a 10) = G.2.1 (F a 10) from ((hF30.2.1 _ (xn1 (xne_k hk9999e hk9999 (by decide)) (xn1 (xne_k hk9999e hk9999a (by decide)) (xn1 (xne_k hk9999e hk9999b (by decide)) (xn1 (xne_k hk9999e hk9999c (by decide)) (xn1 (xne_k hk9999e hk9999d (by decide)) xn0)))))).trans (ld_c hG2)))] at t64; exact t64
            refine xi_zeq (tgt := 74) hx hb (rfl : Int32.toInt x64 = x64.toInt) dX11_first_67 (by decide) (fun c67 => ?_) (fun c67 => ?_)
            · refine lv_iconst (v := 0) hx hb dX11_first_74 (by decide) ?_
              refine xi_iadd hx hb (rfl : Int32.toInt l2_37 = l2_37.toInt) ((by decide) : Int32.toInt 0 = (0 : Int)) dX11_first_75 (fun x75 t75 => ?_)
              refine lv_istore_n (lv' := [(2, .int x75), (0, .ref a), (1, .int p0), (3, .int l3_37)]) hx hb dX11_first_76 rfl hl (by decide) rfl (fun ls hl => ?_)
              refine xi_iinc (n := 1) (lv' := fun z9 => [(3, .int z9), (2, .int x75), (0, .ref a), (1, .int p0)]) (k := 3) hx hb (rfl : Int32.toInt l3_37 = l3_37.toInt) (by decide) dX11_first_77 hl rfl (by decide) (fun _ => rfl) (fun x77 ls t77 hl => ?_)
              have e77 : x77.toInt = (l3_37.toInt + 1) := (z_X11_first_11 l3_37.toInt x77.toInt ((G30.1 a 19).toInt) t30 I37_0 c42 t77)
              have hl : lv_has ls 4 [(3, .int x77), (2, .int x75), (0, .ref a), (1, .int p0)] := hl
              refine lv_goto (tgt := 37) hx hb dX11_first_80 (by decide) ?_
              exact ih37 x75 x77 _ _ _ (by rw [(e77 : Int32.toInt x77 = (l3_37.toInt + 1))] <;> exact (z_X11_first_12 l3_37.toInt I37_0)) (by rw [(e77 : Int32.toInt x77 = (l3_37.toInt + 1))] <;> exact (z_X11_first_13 l3_37.toInt I37_0)) (by rw [(e77 : Int32.toInt x77 = (l3_37.toInt + 1))] <;> exact (z_X11_first_14 l3_37.toInt N37 hm37)) hT hS (lv_sub hl [2, 3, 1, 0] rfl)
            · refine lv_iconst (v := 1) hx hb dX11_first_70 (by decide) ?_
              refine lv_goto (tgt := 75) hx hb dX11_first_71 (by decide) ?_
              refine xi_iadd hx hb (rfl : Int32.toInt l2_37 = l2_37.toInt) ((by decide) : Int32.toInt 1 = (1 : Int)) dX11_first_75 (fun x75 t75 => ?_)
              refine lv_istore_n (lv' := [(2, .int x75), (0, .ref a), (1, .int p0), (3, .int l3_37)]) hx hb dX11_first_76 rfl hl (by decide) rfl (fun ls hl => ?_)
              refine xi_iinc (n := 1) (lv' := fun z9 => [(3, .int z9), (2, .int x75), (0, .ref a), (1, .int p0)]) (k := 3) hx hb (rfl : Int32.toInt l3_37 = l3_37.toInt) (by decide) dX11_first_77 hl rfl (by decide) (fun _ => rfl) (fun x77 ls t77 hl => ?_)
              have e77 : x77.toInt = (l3_37.toInt + 1) := (z_X11_first_11 l3_37.toInt x77.toInt ((G30.1 a 19).toInt) t30 I37_0 c42 t77)
              have hl : lv_has ls 4 [(3, .int x77), (2, .int x75), (0, .ref a), (1, .int p0)] := hl
              refine lv_goto (tgt := 37) hx hb dX11_first_80 (by decide) ?_
              exact ih37 x75 x77 _ _ _ (by rw [(e77 : Int32.toInt x77 = (l3_37.toInt + 1))] <;> exact (z_X11_first_12 l3_37.toInt I37_0)) (by rw [(e77 : Int32.toInt x77 = (l3_37.toInt + 1))] <;> exact (z_X11_first_13 l3_37.toInt I37_0)) (by rw [(e77 : Int32.toInt x77 = (l3_37.toInt + 1))] <;> exact (z_X11_first_14 l3_37.toInt N37 hm37)) hT hS (lv_sub hl [2, 3, 1, 0] rfl)
      exact L37 4294967297 0 0 _ _ _ (by decide) (by decide) (by decide) hT hS (lv_sub hl [2, 3, 1, 0] rfl)
    · refine lv_iconst (v := (-1)) hx hb dX11_first_27 (by decide) ?_
      exact x_ri hx hb hr hlk hQ (Nat.le_of_ble_eq_true rfl) (Nat.le_of_ble_eq_true rfl) hS dX11_first_28 G2 ⟨_, rfl, (by rw [hG2]; exact XFr.dput XFr.rf (List.mem_of_getElem? (i := 0) rfl))⟩ hT
  · refine lv_ldc (v := (-2147483648)) hx hb S.2.2.2.1 (S.2.2.2.2 _ (List.mem_cons_of_mem _ kc_X11_57)) dX11_first_17 ?_
    exact x_ri hx hb hr hlk hQ (Nat.le_of_ble_eq_true rfl) (Nat.le_of_ble_eq_true rfl) hS dX11_first_19 G2 ⟨_, rfl, (by rw [hG2]; exact XFr.dput XFr.rf (List.mem_of_getElem? (i := 0) rfl))⟩ hT

theorem z_X11_group_1 (a0 : Int) (a1 : Int) (h0 : 1 ≤ a0 ∧ a0 ≤ a1 + 1) (h1 : a1 ≤ 2388) : ¬ (5000 - a0 < ((0 : Nat) : Int)) := by omega
theorem z_X11_group_3 (a0 : Int) (a1 : Int) (a2 : Int) (a3 : Int) (a4 : Int) (h0 : 0 ≤ a0 ∧ a0 < a1) (h1 : a0 = a2 ∨ a0 = 0 ∨ a4 ≠ a3) (h2 : ¬ (a2 < a1)) : a0 = 0 ∨ a4 ≠ a3 := by omega
theorem z_X11_group_4 (a0 : Int) (a1 : Int) (h0 : ¬ (a1 < a0)) : a0 ≤ a1 := by omega
theorem z_X11_group_5 (a0 : Int) (a1 : Int) (h0 : 0 ≤ a0 ∧ a0 < a1) : a0 ≤ a1 - 1 := by omega
theorem z_X11_group_6 (a0 : Int) : a0 - 1 < a0 := by omega
theorem z_X11_group_7 (a0 : Int) (a1 : Int) (h0 : ¬ (a1 < a0)) : a0 - 1 < a1 := by omega
theorem z_X11_group_8 (a0 : Int) (a1 : Int) (a2 : Int) (a3 : Int) (h0 : 0 ≤ a3 ∧ a3 ≤ 2388) (h1 : 0 ≤ a0 ∧ a0 ≤ a1) (h2 : ¬ (a3 < a1)) (h3 : a2 = (a0 + 1) ∨ (a0 + 1) < -2147483648 ∨ 2147483648 ≤ (a0 + 1)) : a2 = (a0 + 1) := by omega
theorem z_X11_group_9 (a0 : Int) (a1 : Int) (a2 : Int) (h0 : 0 ≤ a2 ∧ a2 ≤ 2388) (h1 : 1 ≤ a0 ∧ a0 ≤ a2 + 1) (h2 : a1 = (a0 + 1) ∨ (a0 + 1) < -2147483648 ∨ 2147483648 ≤ (a0 + 1)) : a1 = (a0 + 1) := by omega
theorem z_X11_group_10 (a0 : Int) (a1 : Int) (h0 : 1 ≤ a0 ∧ a0 ≤ a1 + 1) (h1 : ¬ (a1 < a0)) : 1 ≤ (a0 + 1) ∧ (a0 + 1) ≤ a1 + 1 := by omega
theorem z_X11_group_11 (a0 : Int) (a1 : Int) (h0 : 1 ≤ a0 ∧ a0 ≤ a1 + 1) : 0 ≤ a0 ∧ a0 < (a0 + 1) := by omega
theorem z_X11_group_12 (a0 : Int) (a1 : Int) (h0 : 0 ≤ a0 ∧ a0 ≤ a1) : 0 ≤ (a0 + 1) ∧ (a0 + 1) ≤ (a1 + 1) := by omega
theorem z_X11_group_13 (a0 : Int) (h0 : 0 ≤ a0 ∧ a0 ≤ 2388) : a0 ≤ 2388 := by omega
theorem z_X11_group_14 (a0 : Int) (a1 : Int) (a2 : Int) (h0 : a0 = a1) (h1 : a2 = a1 + 1) : (a0 + 1) = a2 := by omega
theorem z_X11_group_15 (a0 : Int) (a1 : Int) (a2 : Int) (a3 : Int) (h0 : a0 = a1) : a0 = a1 ∨ a0 = 0 ∨ a3 ≠ a2 := by omega
theorem z_X11_group_16 (a0 : Int) (a1 : Int) (h0 : a1 < 0 ∨ a0 ≤ a1) (h1 : a0 ≠ a1) : a1 < 0 ∨ (a0 + 1) ≤ a1 := by omega
theorem z_X11_group_17 (a0 : Int) (a1 : Int) (h0 : ¬ (a1 < a0)) : (a0 + 1) ≤ a1 ∨ a0 = a1 := by omega
theorem z_X11_group_19 (a0 : Int) (a1 : Nat) (h0 : 5000 - a0 < ((a1 + 1 : Nat) : Int)) : 5000 - (a0 + 1) < ((a1 : Nat) : Int) := by omega
theorem z_X11_group_20 (a0 : Int) (a1 : Int) (a2 : Int) (h0 : 0 ≤ a2 ∧ a2 ≤ 2388) (h1 : 0 ≤ a0 ∧ a0 < a1) (h2 : ¬ (a2 < a1)) : 0 ≤ a0 ∧ a0 < ((2400 : Nat) : Int) := by omega
theorem z_X11_group_21 (a0 : Int) (a1 : Int) (h0 : 0 ≤ a1 ∧ a1 ≤ 2388) (h1 : 1 ≤ a0 ∧ a0 ≤ a1 + 1) : 0 ≤ a0 ∧ a0 < ((2400 : Nat) : Int) := by omega
theorem z_X11_group_25 (a0 : Int) (a1 : Int) (h0 : 0 ≤ a0 ∧ a0 < a1) : 0 ≤ a0 ∧ a0 < (a1 + 1) := by omega
theorem z_X11_group_26 (a0 : Int) (a1 : Int) (h0 : 0 ≤ a0 ∧ a0 ≤ a1) : 0 ≤ a0 ∧ a0 ≤ (a1 + 1) := by omega
theorem z_X11_group_31 (a0 : Int) (a1 : Int) (a2 : Int) (h0 : ¬ (a2 < a1)) (h1 : ¬ (a1 = a2)) : (a1 + 1) ≤ a2 ∨ a0 = a2 := by omega
theorem z_X11_group_47 (a0 : Int) (a1 : Int) (a2 : Int) (a3 : Int) (a4 : Int) (h0 : ¬ (a4 = a2)) (h1 : a3 = a2) : a0 = a1 ∨ a0 = 0 ∨ a4 ≠ a3 := by omega
theorem z_X11_group_53 (a0 : Int) (h0 : 0 ≤ a0 ∧ a0 ≤ 2388) : 1 ≤ (1 : Int) ∧ (1 : Int) ≤ a0 + 1 := by omega
theorem z_X11_group_55 (a0 : Int) (h0 : a0 = 0) : (0 : Int) = a0 := by omega
theorem z_X11_group_56 (a0 : Int) (a1 : Int) (a2 : Int) : (0 : Int) = a0 ∨ (0 : Int) = 0 ∨ a2 ≠ a1 := by omega
theorem z_X11_group_57 (a0 : Int) : a0 < 0 ∨ (0 : Int) ≤ a0 := by omega
theorem z_X11_group_58 (a0 : Int) (h0 : 0 ≤ a0 ∧ a0 ≤ 2388) : (1 : Int) ≤ a0 ∨ (0 : Int) = a0 := by omega
theorem z_X11_group_59 (a0 : Int) (h0 : 0 ≤ a0 ∧ a0 ≤ 2388) : (0 : Int) ≤ a0 := by omega
abbrev rm_X11_group : Room := { frames := 5, cells := 0, slots := 0, locals := 122 }
set_option maxHeartbeats 4000000 in
set_option maxRecDepth 100000 in
theorem c_X11_group (l : Launch) (E : XE) (K : Nat → Nat) (F : Nat → Nat → Nat) (G : XG) (a : Nat) (p0 : Int32) (p1 : Int32) (ha : K a = 13) (hR : RV (G.2.1 (F a 10))) (hM : RM (G.2.1 (F a 1)) (0)) (hB : RM (G.2.1 (F a 2)) 0) : Met l yX11_group (xw yX11_group cX11_group 6 (some .int)) rm_X11_group (va_Pc [.ref a, .int p0, .int p1] (XP E K F G)) (XQ E (fun v (u : XG) => ∃ r : Int32, v = .int r ∧ XFr [(a, 0), (a, 16), (a, 19)] [F a 15, F a 17, F a 18, F a 11, F a 13] [] G u ∧ (((p1.toInt < 0 ∨ 1 < p1.toInt) ∧ r.toInt = -1) ∨ ((0 ≤ p1.toInt ∧ p1.toInt ≤ 1) ∧ GrM (nth1 (if ((G.1 a 6).toInt) = 0 then [] else fuO (G.2.1 (F a 10)) (mw (G.2.1 (F a 1)) 0) (mw (G.2.1 (F a 2)) 0) 1)) (((if ((G.1 a 6).toInt) = 0 then [] else fuO (G.2.1 (F a 10)) (mw (G.2.1 (F a 1)) 0) (mw (G.2.1 (F a 2)) 0) 1).length : Nat) : Int) p0.toInt p1.toInt r.toInt))) (fun u H => TW E K F u H)) 0 0 (xA E) := by
  refine x_enter (by decide) (Nat.le_of_ble_eq_true rfl) ?_
  intro p e s m args below meth c Q S hr hlk hnm hQ hP ls hl
  obtain ⟨hz, hK, hT⟩ := hP
  obtain ⟨hx, hb, -, -, -⟩ := id S
  obtain ⟨H, hT, hS, hgo⟩ : ∃ H : Heap, TW E K F G H ∧ va_S (xA E) s.heap H [] ∧ H = s.heap := ⟨_, hT, va_S.rf, rfl⟩
  rw [← hgo]
  have hl : lv_has ls 6 [(0, .ref a), (1, .int p0), (2, .int p1)] := hl
  obtain ⟨hk9999, hj9999⟩ := fkX11_15 hT ha
  obtain ⟨hk9999a, hj9999a⟩ := fkX11_17 hT ha
  obtain ⟨hk9999b, hj9999b⟩ := fkX11_18 hT ha
  obtain ⟨hk9999c, hj9999c⟩ := fkX11_11 hT ha
  obtain ⟨hk9999d, hj9999d⟩ := fkX11_13 hT ha
  obtain ⟨hk9999e, hj9999e⟩ := fkX11_10 hT ha
  obtain ⟨hk9999f, hj9999f⟩ := fkX11_1 hT ha
  obtain ⟨hk9999g, hj9999g⟩ := fkX11_2 hT ha
  refine lv_aload_n hx hb dX11_group_0 rfl (lv_at hl 0 rfl) ?_
  refine lv_iconst (v := 0) hx hb dX11_group_1 (by decide) ?_
  refine pX11_0 (v := 0) S hK hT hS ha kf_X11_134 dX11_group_2 (fun H locs hT hS => ?_)
  obtain ⟨G2, hG2⟩ : ∃ GG : XG, GG = dput G a 0 0 := ⟨_, rfl⟩
  rw [← hG2] at hT
  refine lv_iload_n hx hb dX11_group_5 rfl (lv_at hl 1 rfl) ?_
  refine lv_iconst (v := (-1)) hx hb dX11_group_6 (by decide) ?_
  refine xi_clt (tgt := 20) hx hb (rfl : Int32.toInt p0 = p0.toInt) ((by decide) : Int32.toInt (-1) = (-1 : Int)) dX11_group_7 (by decide) (fun c7 => ?_) (fun c7 => ?_)
  · refine lv_iconst (v := (-1)) hx hb dX11_group_20 (by decide) ?_
    exact x_ri hx hb hr hlk hQ (Nat.le_of_ble_eq_true rfl) (Nat.le_of_ble_eq_true rfl) hS dX11_group_21 G2 ⟨_, rfl, (by rw [hG2]; exact XFr.dput XFr.rf (List.mem_of_getElem? (i := 0) rfl)), (by rw [((by decide) : Int32.toInt (-1) = (-1 : Int))] <;> exact (v_X11_group_21_1 (K := K) (F := F) a G p0 p1 ha c7))⟩ hT
  · refine lv_iload_n hx hb dX11_group_10 rfl (lv_at hl 2 rfl) ?_
    refine lv_i2l (v := p1.toInt64) hx hb dX11_group_11 rfl ?_
    refine lv_lconst (v := (0 : Int64)) hx hb dX11_group_12 (by decide) ?_
    refine lv_lconst (v := (1 : Int64)) hx hb dX11_group_13 (by decide) ?_
    refine x_clp (x_runS (As := [.long p1.toInt64, .long (0 : Int64), .long (1 : Int64)]) (rest := []) S (c_X11_in l E K F G2 H p1.toInt64 p1.toInt (0 : Int64) (0 : Int) (1 : Int64) (1 : Int) (xl_i2l (rfl : Int32.toInt p1 = p1.toInt)) (by decide) (by decide)) ms_X11_in km_X11_139 rfl rfl ⟨Nat.le_of_ble_eq_true rfl, Nat.le_of_ble_eq_true rfl⟩ hK (fun _ => XPh.blind) (fun U hU hW => XPh.at hK hz hS hT hU hW) rfl hl.1 (Nat.le_of_ble_eq_true rfl) dX11_group_14 ⟨Nat.le_of_ble_eq_true rfl, Nat.le_of_ble_eq_true rfl⟩) hS ?_
    rintro _ _ locs ⟨x14, rfl, b14, t14⟩ hS
    have t14 : (x14.toInt = 1 ∧ (0 : Int) ≤ p1.toInt ∧ p1.toInt ≤ (1 : Int)) ∨ (x14.toInt = 0 ∧ (p1.toInt < (0 : Int) ∨ (1 : Int) < p1.toInt)) := t14
    refine xi_zne (tgt := 22) hx hb (rfl : Int32.toInt x14 = x14.toInt) dX11_group_17 (by decide) (fun c17 => ?_) (fun c17 => ?_)
    · refine lv_aload_n hx hb dX11_group_22 rfl (lv_at hl 0 rfl) ?_
      refine x_cv0 (x_runV (b := a) (As := []) (rest := []) S (c_X11_findQueue l E K F G2 a ha (v_X11_group_23_2 (F := F) a G2 G hR (ld_c hG2)) (v_X11_group_23_3 (F := F) a G2 G hM hB (ld_c hG2)) (v_X11_group_23_4 (F := F) a G2 G hM hB (ld_c hG2))) mv_X11_findQueue km_X11_218 rfl rfl ⟨Nat.le_of_ble_eq_true rfl, Nat.le_of_ble_eq_true rfl⟩ (rc_13 hK hT ha) hK (fun _ => XP.blind) (fun U hU hW => XP.at hK hz hS hT hU hW) rfl hl.1 (Nat.le_of_ble_eq_true rfl) dX11_group_23 ⟨Nat.le_of_ble_eq_true rfl, Nat.le_of_ble_eq_true rfl⟩) hS ?_
      rintro G23 H locs ⟨hF23, t23, oq23, oq23a, oq23b⟩ hT hS
      have t23 : 0 ≤ ((G23.1 a 19).toInt) ∧ ((G23.1 a 19).toInt) ≤ 2388 := t23
      have oq23 : pL G23 F a = if ((G.1 a 6).toInt) = 0 then [] else fuO (G.2.1 (F a 10)) (mw (G.2.1 (F a 1)) 0) (mw (G.2.1 (F a 2)) 0) 1 := by simp only [(show G2.1 a 6 = G.1 a 6 from (ld_j hG2 (by decide))), (show G2.2.1 (F a 10) = G.2.1 (F a 10) from (ld_c hG2)), (show G2.2.1 (F a 1) = G.2.1 (F a 1) from (ld_c hG2)), (show G2.2.1 (F a 2) = G.2.1 (F a 2) from (ld_c hG2))] at oq23; exact oq23
      have oq23a : ((G.1 a 6).toInt) ≠ 0 → LSt (G.2.1 (F a 10)) (G23.2.1 (F a 11)) (mw (G.2.1 (F a 1)) 0) 12 ∧ LSt (G.2.1 (F a 10)) (G23.2.1 (F a 13)) (mw (G.2.1 (F a 2)) 0) 12 := by simp only [(show G2.1 a 6 = G.1 a 6 from (ld_j hG2 (by decide))), (show G2.2.1 (F a 10) = G.2.1 (F a 10) from (ld_c hG2)), (show G2.2.1 (F a 1) = G.2.1 (F a 1) from (ld_c hG2)), (show G2.2.1 (F a 2) = G.2.1 (F a 2) from (ld_c hG2))] at oq23a; exact oq23a
      have z26 : (stF (aI (G23.2.1 (F a 17))) 0) = 0 := stF_0 _
      refine lv_iconst (v := 0) hx hb dX11_group_26 (by decide) ?_
      refine lv_istore_n (lv' := [(3, .int 0), (0, .ref a), (1, .int p0), (2, .int p1)]) hx hb dX11_group_27 rfl hl (by decide) rfl (fun ls hl => ?_)
      refine lv_iconst (v := 0) hx hb dX11_group_28 (by decide) ?_
      refine lv_istore (lv' := [(4, .int 0), (3, .int 0), (0, .ref a), (1, .int p0), (2, .int p1)]) hx hb dX11_group_29 hl (by decide) rfl (fun ls hl => ?_)
      refine lv_iconst (v := 1) hx hb dX11_group_31 (by decide) ?_
      refine lv_istore (lv' := [(5, .int 1), (4, .int 0), (3, .int 0), (0, .ref a), (1, .int p0), (2, .int p1)]) hx hb dX11_group_32 hl (by decide) rfl (fun ls hl => ?_)
      have L34 : ∀ (N34 : Nat) (l3_34 : Int32) (l4_34 : Int32) (l5_34 : Int32) (H : Heap) (locs : List Loc) (ls : Array Slot), (∀ j : Int, l4_34.toInt ≤ j → j < l5_34.toInt → j < (G23.1 a 19).toInt → aI (G23.2.1 (F a 17)) j = aI (G23.2.1 (F a 17)) l4_34.toInt) → 1 ≤ l5_34.toInt ∧ l5_34.toInt ≤ ((G23.1 a 19).toInt) + 1 → 0 ≤ l4_34.toInt ∧ l4_34.toInt < l5_34.toInt → 0 ≤ l3_34.toInt ∧ l3_34.toInt ≤ l5_34.toInt → ((G23.1 a 19).toInt) ≤ 2388 → l3_34.toInt = (stF (aI (G23.2.1 (F a 17))) (l4_34.toInt)) → l4_34.toInt = ((G23.1 a 19).toInt) ∨ l4_34.toInt = 0 ∨ (aI (G23.2.1 (F a 17)) (l4_34.toInt)) ≠ (aI (G23.2.1 (F a 17)) (l4_34.toInt - 1)) → p0.toInt < 0 ∨ l3_34.toInt ≤ p0.toInt → l5_34.toInt ≤ ((G23.1 a 19).toInt) ∨ l4_34.toInt = ((G23.1 a 19).toInt) → l4_34.toInt ≤ ((G23.1 a 19).toInt) → 5000 - l5_34.toInt < ((N34 : Nat) : Int) → TW E K F G23 H → va_S (xA E) s.heap H locs → lv_has ls 6 [(0, .ref a), (1, .int p0), (2, .int p1), (3, .int l3_34), (4, .int l4_34), (5, .int l5_34)] → W p l e rm_X11_group s m args below meth c H locs 0 0 Q (F0 m 34 ls []) := by
        intro N34
        induction N34 with
        | zero =>
          intro l3_34 l4_34 l5_34 H locs ls rn I34_0 I34_1 I34_2 I34_3 I34_4 I34_5 I34_6 I34_7 I34_8 hm34
          exact absurd hm34 (z_X11_group_1 l5_34.toInt ((G23.1 a 19).toInt) I34_0 I34_3)
        | succ N34 ih34 =>
          intro l3_34 l4_34 l5_34 H locs ls rn I34_0 I34_1 I34_2 I34_3 I34_4 I34_5 I34_6 I34_7 I34_8 hm34 hT hS hl
          refine lv_iload hx hb dX11_group_34 (lv_at hl 5 rfl) ?_
          refine lv_aload_n hx hb dX11_group_36 rfl (lv_at hl 0 rfl) ?_
          refine gX11_19 S hK hT ha kf_X11_203 dX11_group_37 (v := (G23.1 a 19)) rfl (?_)
          refine xi_cgt (tgt := 107) hx hb (rfl : Int32.toInt l5_34 = l5_34.toInt) (rfl : Int32.toInt (G23.1 a 19) = ((G23.1 a 19).toInt)) dX11_group_40 (by decide) (fun c40 => ?_) (fun c40 => ?_)
          · have z107 : l4_34.toInt = ((G23.1 a 19).toInt) → (stF (aI (G23.2.1 (F a 17))) (l4_34.toInt)) = (stF (aI (G23.2.1 (F a 17))) ((G23.1 a 19).toInt)) := fun h9 => by rw [h9]
            refine lv_iload_n hx hb dX11_group_107 rfl (lv_at hl 1 rfl) ?_
            refine lv_iconst (v := (-1)) hx hb dX11_group_108 (by decide) ?_
            refine xi_cne (tgt := 116) hx hb (rfl : Int32.toInt p0 = p0.toInt) ((by decide) : Int32.toInt (-1) = (-1 : Int)) dX11_group_109 (by decide) (fun c109 => ?_) (fun c109 => ?_)
            · refine lv_iconst (v := (-1)) hx hb dX11_group_116 (by decide) ?_
              exact x_ri hx hb hr hlk hQ (Nat.le_of_ble_eq_true rfl) (Nat.le_of_ble_eq_true rfl) hS dX11_group_117 G23 ⟨_, rfl, (XFr.call (by rw [hG2]; exact XFr.dput XFr.rf (List.mem_of_getElem? (i := 0) rfl)) hF23 (xm1 1 rfl (xm1 2 rfl xm0)) (xm1 0 rfl (xm1 1 rfl (xm1 2 rfl (xm1 3 rfl (xm1 4 rfl xm0))))) xm0), (by rw [((by decide) : Int32.toInt (-1) = (-1 : Int))] <;> exact (v_X11_group_117_5 (K := K) (F := F) a G2 G G23 l4_34 l5_34 p0 x14 p1 l3_34 N34 ha oq23 oq23a oq23b c7 t14 c17 t23 z26 I34_0 I34_1 I34_2 I34_3 I34_4 I34_5 I34_6 I34_7 I34_8 hm34 c40 z107 c109))⟩ hT
            · refine lv_iload_n hx hb dX11_group_112 rfl (lv_at hl 3 rfl) ?_
              refine lv_goto (tgt := 117) hx hb dX11_group_113 (by decide) ?_
              exact x_ri hx hb hr hlk hQ (Nat.le_of_ble_eq_true rfl) (Nat.le_of_ble_eq_true rfl) hS dX11_group_117 G23 ⟨_, rfl, (XFr.call (by rw [hG2]; exact XFr.dput XFr.rf (List.mem_of_getElem? (i := 0) rfl)) hF23 (xm1 1 rfl (xm1 2 rfl xm0)) (xm1 0 rfl (xm1 1 rfl (xm1 2 rfl (xm1 3 rfl (xm1 4 rfl xm0))))) xm0), (v_X11_group_117_6 (K := K) (F := F) a G2 G G23 l4_34 l5_34 p0 x14 p1 l3_34 N34 ha oq23 oq23a oq23b c7 t14 c17 t23 z26 I34_0 I34_1 I34_2 I34_3 I34_4 I34_5 I34_6 I34_7 I34_8 hm34 c40 z107 c109)⟩ hT
          · refine lv_iload hx hb dX11_group_43 (lv_at hl 5 rfl) ?_
            refine lv_aload_n hx hb dX11_group_45 rfl (lv_at hl 0 rfl) ?_
            refine gX11_19 S hK hT ha kf_X11_203 dX11_group_46 (v := (G23.1 a 19)) rfl (?_)
            refine xi_ceq (tgt := 69) hx hb (rfl : Int32.toInt l5_34 = l5_34.toInt) (rfl : Int32.toInt (G23.1 a 19) = ((G23.1 a 19).toInt)) dX11_group_49 (by decide) (fun c49 => ?_) (fun c49 => ?_)
            · have z69 : (stF (aI (G23.2.1 (F a 17))) (l5_34.toInt)) = (stF (aI (G23.2.1 (F a 17))) (l4_34.toInt)) + 1 := stF_run (I34_1) (z_X11_group_3 l4_34.toInt l5_34.toInt ((G23.1 a 19).toInt) (aI (G23.2.1 (F a 17)) (l4_34.toInt - 1)) (aI (G23.2.1 (F a 17)) (l4_34.toInt)) I34_1 I34_5 c40) (fun j a1 a2 => rn j a1 a2 (Int.lt_of_lt_of_le a2 (z_X11_group_4 l5_34.toInt ((G23.1 a 19).toInt) c40)))
              have z69a : (aI (G23.2.1 (F a 17)) (l5_34.toInt - 1)) = (aI (G23.2.1 (F a 17)) (l4_34.toInt)) := rn _ (z_X11_group_5 l4_34.toInt l5_34.toInt I34_1) (z_X11_group_6 l5_34.toInt) (z_X11_group_7 l5_34.toInt ((G23.1 a 19).toInt) c40)
              refine lv_iload_n hx hb dX11_group_69 rfl (lv_at hl 3 rfl) ?_
              refine lv_iload_n hx hb dX11_group_70 rfl (lv_at hl 1 rfl) ?_
              refine xi_cne (tgt := 94) hx hb (rfl : Int32.toInt l3_34 = l3_34.toInt) (rfl : Int32.toInt p0 = p0.toInt) dX11_group_71 (by decide) (fun c71 => ?_) (fun c71 => ?_)
              · refine xi_iinc (n := 1) (lv' := fun z9 => [(3, .int z9), (0, .ref a), (1, .int p0), (2, .int p1), (4, .int l4_34), (5, .int l5_34)]) (k := 3) hx hb (rfl : Int32.toInt l3_34 = l3_34.toInt) (by decide) dX11_group_94 hl rfl (by decide) (fun _ => rfl) (fun x94 ls t94 hl => ?_)
                have e94 : x94.toInt = (l3_34.toInt + 1) := (z_X11_group_8 l3_34.toInt l5_34.toInt x94.toInt ((G23.1 a 19).toInt) t23 I34_2 c40 t94)
                have hl : lv_has ls 6 [(3, .int x94), (0, .ref a), (1, .int p0), (2, .int p1), (4, .int l4_34), (5, .int l5_34)] := hl
                refine lv_iload hx hb dX11_group_97 (lv_at hl 5 rfl) ?_
                refine lv_istore (lv' := [(4, .int l5_34), (3, .int x94), (0, .ref a), (1, .int p0), (2, .int p1), (5, .int l5_34)]) hx hb dX11_group_99 hl (by decide) rfl (fun ls hl => ?_)
                refine xi_iinc (n := 1) (lv' := fun z9 => [(5, .int z9), (4, .int l5_34), (3, .int x94), (0, .ref a), (1, .int p0), (2, .int p1)]) (k := 5) hx hb (rfl : Int32.toInt l5_34 = l5_34.toInt) (by decide) dX11_group_101 hl rfl (by decide) (fun _ => rfl) (fun x101 ls t101 hl => ?_)
                have e101 : x101.toInt = (l5_34.toInt + 1) := (z_X11_group_9 l5_34.toInt x101.toInt ((G23.1 a 19).toInt) t23 I34_0 t101)
                have hl : lv_has ls 6 [(5, .int x101), (4, .int l5_34), (3, .int x94), (0, .ref a), (1, .int p0), (2, .int p1)] := hl
                refine lv_goto (tgt := 34) hx hb dX11_group_104 (by decide) ?_
                exact ih34 x94 l5_34 x101 _ _ _ (by rw [(e101 : Int32.toInt x101 = (l5_34.toInt + 1))] <;> exact (v_X11_group_104_7 (K := K) (F := F) a G2 G G23 l4_34 l5_34 l3_34 p0 x14 p1 N34 ha oq23a oq23b rn c7 t14 c17 t23 z26 I34_0 I34_1 I34_2 I34_3 I34_4 I34_5 I34_6 I34_7 I34_8 hm34 c40 c49 z69 z69a c71)) (by rw [(e101 : Int32.toInt x101 = (l5_34.toInt + 1))] <;> exact (z_X11_group_10 l5_34.toInt ((G23.1 a 19).toInt) I34_0 c40)) (by rw [(e101 : Int32.toInt x101 = (l5_34.toInt + 1))] <;> exact (z_X11_group_11 l5_34.toInt ((G23.1 a 19).toInt) I34_0)) (by rw [(e94 : Int32.toInt x94 = (l3_34.toInt + 1)), (e101 : Int32.toInt x101 = (l5_34.toInt + 1))] <;> exact (z_X11_group_12 l3_34.toInt l5_34.toInt I34_2)) (z_X11_group_13 ((G23.1 a 19).toInt) t23) (by rw [(e94 : Int32.toInt x94 = (l3_34.toInt + 1))] <;> exact (z_X11_group_14 l3_34.toInt (stF (aI (G23.2.1 (F a 17))) (l4_34.toInt)) (stF (aI (G23.2.1 (F a 17))) (l5_34.toInt)) I34_4 z69)) (z_X11_group_15 l5_34.toInt ((G23.1 a 19).toInt) (aI (G23.2.1 (F a 17)) (l5_34.toInt - 1)) (aI (G23.2.1 (F a 17)) (l5_34.toInt)) c49) (by rw [(e94 : Int32.toInt x94 = (l3_34.toInt + 1))] <;> exact (z_X11_group_16 l3_34.toInt p0.toInt I34_6 c71)) (by rw [(e101 : Int32.toInt x101 = (l5_34.toInt + 1))] <;> exact (z_X11_group_17 l5_34.toInt ((G23.1 a 19).toInt) c40)) (z_X11_group_4 l5_34.toInt ((G23.1 a 19).toInt) c40) (by rw [(e101 : Int32.toInt x101 = (l5_34.toInt + 1))] <;> exact (z_X11_group_19 l5_34.toInt N34 hm34)) hT hS (lv_sub hl [3, 4, 5, 2, 1, 0] rfl)
              · refine lv_iload_n hx hb dX11_group_74 rfl (lv_at hl 2 rfl) ?_
                refine xi_zne (tgt := 88) hx hb (rfl : Int32.toInt p1 = p1.toInt) dX11_group_75 (by decide) (fun c75 => ?_) (fun c75 => ?_)
                · refine lv_iload hx hb dX11_group_88 (lv_at hl 5 rfl) ?_
                  refine lv_iload hx hb dX11_group_90 (lv_at hl 4 rfl) ?_
                  refine xi_isub hx hb (rfl : Int32.toInt l5_34 = l5_34.toInt) (rfl : Int32.toInt l4_34 = l4_34.toInt) dX11_group_92 (fun x92 t92 => ?_)
                  exact x_ri hx hb hr hlk hQ (Nat.le_of_ble_eq_true rfl) (Nat.le_of_ble_eq_true rfl) hS dX11_group_93 G23 ⟨_, rfl, (XFr.call (by rw [hG2]; exact XFr.dput XFr.rf (List.mem_of_getElem? (i := 0) rfl)) hF23 (xm1 1 rfl (xm1 2 rfl xm0)) (xm1 0 rfl (xm1 1 rfl (xm1 2 rfl (xm1 3 rfl (xm1 4 rfl xm0))))) xm0), (v_X11_group_93_8 (K := K) (F := F) a G2 G G23 l4_34 l5_34 p0 x14 p1 l3_34 N34 x92 ha oq23 oq23a oq23b rn c7 t14 c17 t23 z26 I34_0 I34_1 I34_2 I34_3 I34_4 I34_5 I34_6 I34_7 I34_8 hm34 c40 c49 z69 z69a c71 c75 t92)⟩ hT
                · refine lv_aload_n hx hb dX11_group_78 rfl (lv_at hl 0 rfl) ?_
                  refine gX11_17 S hK hT ha kf_X11_51 dX11_group_79 (fun _ _ => ?_)
                  refine lv_iload hx hb dX11_group_82 (lv_at hl 4 rfl) ?_
                  refine al_0 S hK hT hk9999a ar_43 (by decide) (z_X11_group_20 l4_34.toInt l5_34.toInt ((G23.1 a 19).toInt) t23 I34_1 c40) dX11_group_84 (fun x84 hv84 o84 => ?_)
                  have hv84 : x84.toInt = (aI (G23.2.1 (F a 17)) (l4_34.toInt)) := hv84.trans (by rw [(rfl : Int32.toInt l4_34 = l4_34.toInt)])
                  refine lv_goto (tgt := 93) hx hb dX11_group_85 (by decide) ?_
                  exact x_ri hx hb hr hlk hQ (Nat.le_of_ble_eq_true rfl) (Nat.le_of_ble_eq_true rfl) hS dX11_group_93 G23 ⟨_, rfl, (XFr.call (by rw [hG2]; exact XFr.dput XFr.rf (List.mem_of_getElem? (i := 0) rfl)) hF23 (xm1 1 rfl (xm1 2 rfl xm0)) (xm1 0 rfl (xm1 1 rfl (xm1 2 rfl (xm1 3 rfl (xm1 4 rfl xm0))))) xm0), (by rw [(hv84 : Int32.toInt x84 = (aI (G23.2.1 (F a 17)) (l4_34.toInt)))] <;> exact (v_X11_group_93_9 (K := K) (F := F) a G2 G G23 l4_34 l5_34 p0 x14 p1 l3_34 N34 ha oq23 oq23a oq23b rn c7 t14 c17 t23 z26 I34_0 I34_1 I34_2 I34_3 I34_4 I34_5 I34_6 I34_7 I34_8 hm34 c40 c49 z69 z69a c71 c75))⟩ hT
            · refine lv_aload_n hx hb dX11_group_52 rfl (lv_at hl 0 rfl) ?_
              refine gX11_17 S hK hT ha kf_X11_51 dX11_group_53 (fun _ _ => ?_)
              refine lv_iload hx hb dX11_group_56 (lv_at hl 5 rfl) ?_
              refine al_0 S hK hT hk9999a ar_43 (by decide) (z_X11_group_21 l5_34.toInt ((G23.1 a 19).toInt) t23 I34_0) dX11_group_58 (fun x58 hv58 o58 => ?_)
              have hv58 : x58.toInt = (aI (G23.2.1 (F a 17)) (l5_34.toInt)) := hv58.trans (by rw [(rfl : Int32.toInt l5_34 = l5_34.toInt)])
              refine lv_aload_n hx hb dX11_group_59 rfl (lv_at hl 0 rfl) ?_
              refine gX11_17 S hK hT ha kf_X11_51 dX11_group_60 (fun _ _ => ?_)
              refine lv_iload hx hb dX11_group_63 (lv_at hl 4 rfl) ?_
              refine al_0 S hK hT hk9999a ar_43 (by decide) (z_X11_group_20 l4_34.toInt l5_34.toInt ((G23.1 a 19).toInt) t23 I34_1 c40) dX11_group_65 (fun x65 hv65 o65 => ?_)
              have hv65 : x65.toInt = (aI (G23.2.1 (F a 17)) (l4_34.toInt)) := hv65.trans (by rw [(rfl : Int32.toInt l4_34 = l4_34.toInt)])
              refine xi_ceq (tgt := 101) hx hb (hv58 : Int32.toInt x58 = (aI (G23.2.1 (F a 17)) (l5_34.toInt))) (hv65 : Int32.toInt x65 = (aI (G23.2.1 (F a 17)) (l4_34.toInt))) dX11_group_66 (by decide) (fun c66 => ?_) (fun c66 => ?_)
              · refine xi_iinc (n := 1) (lv' := fun z9 => [(5, .int z9), (0, .ref a), (1, .int p0), (2, .int p1), (3, .int l3_34), (4, .int l4_34)]) (k := 5) hx hb (rfl : Int32.toInt l5_34 = l5_34.toInt) (by decide) dX11_group_101 hl rfl (by decide) (fun _ => rfl) (fun x101 ls t101 hl => ?_)
                have e101 : x101.toInt = (l5_34.toInt + 1) := (z_X11_group_9 l5_34.toInt x101.toInt ((G23.1 a 19).toInt) t23 I34_0 t101)
                have hl : lv_has ls 6 [(5, .int x101), (0, .ref a), (1, .int p0), (2, .int p1), (3, .int l3_34), (4, .int l4_34)] := hl
                refine lv_goto (tgt := 34) hx hb dX11_group_104 (by decide) ?_
                exact ih34 l3_34 l4_34 x101 _ _ _ (by rw [(e101 : Int32.toInt x101 = (l5_34.toInt + 1))] <;> exact (v_X11_group_104_10 (K := K) (F := F) a G2 G G23 l4_34 l5_34 p0 x14 p1 l3_34 N34 ha oq23a oq23b rn c7 t14 c17 t23 z26 I34_0 I34_1 I34_2 I34_3 I34_4 I34_5 I34_6 I34_7 I34_8 hm34 c40 c49 c66)) (by rw [(e101 : Int32.toInt x101 = (l5_34.toInt + 1))] <;> exact (z_X11_group_10 l5_34.toInt ((G23.1 a 19).toInt) I34_0 c40)) (by rw [(e101 : Int32.toInt x101 = (l5_34.toInt + 1))] <;> exact (z_X11_group_25 l4_34.toInt l5_34.toInt I34_1)) (by rw [(e101 : Int32.toInt x101 = (l5_34.toInt + 1))] <;> exact (z_X11_group_26 l3_34.toInt l5_34.toInt I34_2)) (z_X11_group_13 ((G23.1 a 19).toInt) t23) (I34_4) (I34_5) (I34_6) (by rw [(e101 : Int32.toInt x101 = (l5_34.toInt + 1))] <;> exact (z_X11_group_31 l4_34.toInt l5_34.toInt ((G23.1 a 19).toInt) c40 c49)) (I34_8) (by rw [(e101 : Int32.toInt x101 = (l5_34.toInt + 1))] <;> exact (z_X11_group_19 l5_34.toInt N34 hm34)) hT hS (lv_sub hl [1, 2, 3, 4, 5, 0] rfl)
              · have z69 : (stF (aI (G23.2.1 (F a 17))) (l5_34.toInt)) = (stF (aI (G23.2.1 (F a 17))) (l4_34.toInt)) + 1 := stF_run (I34_1) (z_X11_group_3 l4_34.toInt l5_34.toInt ((G23.1 a 19).toInt) (aI (G23.2.1 (F a 17)) (l4_34.toInt - 1)) (aI (G23.2.1 (F a 17)) (l4_34.toInt)) I34_1 I34_5 c40) (fun j a1 a2 => rn j a1 a2 (Int.lt_of_lt_of_le a2 (z_X11_group_4 l5_34.toInt ((G23.1 a 19).toInt) c40)))
                have z69a : (aI (G23.2.1 (F a 17)) (l5_34.toInt - 1)) = (aI (G23.2.1 (F a 17)) (l4_34.toInt)) := rn _ (z_X11_group_5 l4_34.toInt l5_34.toInt I34_1) (z_X11_group_6 l5_34.toInt) (z_X11_group_7 l5_34.toInt ((G23.1 a 19).toInt) c40)
                refine lv_iload_n hx hb dX11_group_69 rfl (lv_at hl 3 rfl) ?_
                refine lv_iload_n hx hb dX11_group_70 rfl (lv_at hl 1 rfl) ?_
                refine xi_cne (tgt := 94) hx hb (rfl : Int32.toInt l3_34 = l3_34.toInt) (rfl : Int32.toInt p0 = p0.toInt) dX11_group_71 (by decide) (fun c71 => ?_) (fun c71 => ?_)
                · refine xi_iinc (n := 1) (lv' := fun z9 => [(3, .int z9), (0, .ref a), (1, .int p0), (2, .int p1), (4, .int l4_34), (5, .int l5_34)]) (k := 3) hx hb (rfl : Int32.toInt l3_34 = l3_34.toInt) (by decide) dX11_group_94 hl rfl (by decide) (fun _ => rfl) (fun x94 ls t94 hl => ?_)
                  have e94 : x94.toInt = (l3_34.toInt + 1) := (z_X11_group_8 l3_34.toInt l5_34.toInt x94.toInt ((G23.1 a 19).toInt) t23 I34_2 c40 t94)
                  have hl : lv_has ls 6 [(3, .int x94), (0, .ref a), (1, .int p0), (2, .int p1), (4, .int l4_34), (5, .int l5_34)] := hl
                  refine lv_iload hx hb dX11_group_97 (lv_at hl 5 rfl) ?_
                  refine lv_istore (lv' := [(4, .int l5_34), (3, .int x94), (0, .ref a), (1, .int p0), (2, .int p1), (5, .int l5_34)]) hx hb dX11_group_99 hl (by decide) rfl (fun ls hl => ?_)
                  refine xi_iinc (n := 1) (lv' := fun z9 => [(5, .int z9), (4, .int l5_34), (3, .int x94), (0, .ref a), (1, .int p0), (2, .int p1)]) (k := 5) hx hb (rfl : Int32.toInt l5_34 = l5_34.toInt) (by decide) dX11_group_101 hl rfl (by decide) (fun _ => rfl) (fun x101 ls t101 hl => ?_)
                  have e101 : x101.toInt = (l5_34.toInt + 1) := (z_X11_group_9 l5_34.toInt x101.toInt ((G23.1 a 19).toInt) t23 I34_0 t101)
                  have hl : lv_has ls 6 [(5, .int x101), (4, .int l5_34), (3, .int x94), (0, .ref a), (1, .int p0), (2, .int p1)] := hl
                  refine lv_goto (tgt := 34) hx hb dX11_group_104 (by decide) ?_
                  exact ih34 x94 l5_34 x101 _ _ _ (by rw [(e101 : Int32.toInt x101 = (l5_34.toInt + 1))] <;> exact (v_X11_group_104_11 (K := K) (F := F) a G2 G G23 l4_34 l5_34 l3_34 p0 x14 p1 N34 ha oq23a oq23b rn c7 t14 c17 t23 z26 I34_0 I34_1 I34_2 I34_3 I34_4 I34_5 I34_6 I34_7 I34_8 hm34 c40 c49 c66 z69 z69a c71)) (by rw [(e101 : Int32.toInt x101 = (l5_34.toInt + 1))] <;> exact (z_X11_group_10 l5_34.toInt ((G23.1 a 19).toInt) I34_0 c40)) (by rw [(e101 : Int32.toInt x101 = (l5_34.toInt + 1))] <;> exact (z_X11_group_11 l5_34.toInt ((G23.1 a 19).toInt) I34_0)) (by rw [(e94 : Int32.toInt x94 = (l3_34.toInt + 1)), (e101 : Int32.toInt x101 = (l5_34.toInt + 1))] <;> exact (z_X11_group_12 l3_34.toInt l5_34.toInt I34_2)) (z_X11_group_13 ((G23.1 a 19).toInt) t23) (by rw [(e94 : Int32.toInt x94 = (l3_34.toInt + 1))] <;> exact (z_X11_group_14 l3_34.toInt (stF (aI (G23.2.1 (F a 17))) (l4_34.toInt)) (stF (aI (G23.2.1 (F a 17))) (l5_34.toInt)) I34_4 z69)) (z_X11_group_47 l5_34.toInt ((G23.1 a 19).toInt) (aI (G23.2.1 (F a 17)) (l4_34.toInt)) (aI (G23.2.1 (F a 17)) (l5_34.toInt - 1)) (aI (G23.2.1 (F a 17)) (l5_34.toInt)) c66 z69a) (by rw [(e94 : Int32.toInt x94 = (l3_34.toInt + 1))] <;> exact (z_X11_group_16 l3_34.toInt p0.toInt I34_6 c71)) (by rw [(e101 : Int32.toInt x101 = (l5_34.toInt + 1))] <;> exact (z_X11_group_17 l5_34.toInt ((G23.1 a 19).toInt) c40)) (z_X11_group_4 l5_34.toInt ((G23.1 a 19).toInt) c40) (by rw [(e101 : Int32.toInt x101 = (l5_34.toInt + 1))] <;> exact (z_X11_group_19 l5_34.toInt N34 hm34)) hT hS (lv_sub hl [3, 4, 5, 2, 1, 0] rfl)
                · refine lv_iload_n hx hb dX11_group_74 rfl (lv_at hl 2 rfl) ?_
                  refine xi_zne (tgt := 88) hx hb (rfl : Int32.toInt p1 = p1.toInt) dX11_group_75 (by decide) (fun c75 => ?_) (fun c75 => ?_)
                  · refine lv_iload hx hb dX11_group_88 (lv_at hl 5 rfl) ?_
                    refine lv_iload hx hb dX11_group_90 (lv_at hl 4 rfl) ?_
                    refine xi_isub hx hb (rfl : Int32.toInt l5_34 = l5_34.toInt) (rfl : Int32.toInt l4_34 = l4_34.toInt) dX11_group_92 (fun x92 t92 => ?_)
                    exact x_ri hx hb hr hlk hQ (Nat.le_of_ble_eq_true rfl) (Nat.le_of_ble_eq_true rfl) hS dX11_group_93 G23 ⟨_, rfl, (XFr.call (by rw [hG2]; exact XFr.dput XFr.rf (List.mem_of_getElem? (i := 0) rfl)) hF23 (xm1 1 rfl (xm1 2 rfl xm0)) (xm1 0 rfl (xm1 1 rfl (xm1 2 rfl (xm1 3 rfl (xm1 4 rfl xm0))))) xm0), (v_X11_group_93_12 (K := K) (F := F) a G2 G G23 l4_34 l5_34 p0 x14 p1 l3_34 N34 x92 ha oq23 oq23a oq23b rn c7 t14 c17 t23 z26 I34_0 I34_1 I34_2 I34_3 I34_4 I34_5 I34_6 I34_7 I34_8 hm34 c40 c49 c66 z69 z69a c71 c75 t92)⟩ hT
                  · refine lv_aload_n hx hb dX11_group_78 rfl (lv_at hl 0 rfl) ?_
                    refine gX11_17 S hK hT ha kf_X11_51 dX11_group_79 (fun _ _ => ?_)
                    refine lv_iload hx hb dX11_group_82 (lv_at hl 4 rfl) ?_
                    refine al_0 S hK hT hk9999a ar_43 (by decide) (z_X11_group_20 l4_34.toInt l5_34.toInt ((G23.1 a 19).toInt) t23 I34_1 c40) dX11_group_84 (fun x84 hv84 o84 => ?_)
                    have hv84 : x84.toInt = (aI (G23.2.1 (F a 17)) (l4_34.toInt)) := hv84.trans (by rw [(rfl : Int32.toInt l4_34 = l4_34.toInt)])
                    refine lv_goto (tgt := 93) hx hb dX11_group_85 (by decide) ?_
                    exact x_ri hx hb hr hlk hQ (Nat.le_of_ble_eq_true rfl) (Nat.le_of_ble_eq_true rfl) hS dX11_group_93 G23 ⟨_, rfl, (XFr.call (by rw [hG2]; exact XFr.dput XFr.rf (List.mem_of_getElem? (i := 0) rfl)) hF23 (xm1 1 rfl (xm1 2 rfl xm0)) (xm1 0 rfl (xm1 1 rfl (xm1 2 rfl (xm1 3 rfl (xm1 4 rfl xm0))))) xm0), (by rw [(hv84 : Int32.toInt x84 = (aI (G23.2.1 (F a 17)) (l4_34.toInt)))] <;> exact (v_X11_group_93_13 (K := K) (F := F) a G2 G G23 l4_34 l5_34 p0 x14 p1 l3_34 N34 ha oq23 oq23a oq23b rn c7 t14 c17 t23 z26 I34_0 I34_1 I34_2 I34_3 I34_4 I34_5 I34_6 I34_7 I34_8 hm34 c40 c49 c66 z69 z69a c71 c75))⟩ hT
      exact L34 4294967297 0 0 1 _ _ _ (v_X11_group_32_14 (K := K) (F := F) a G2 G G23 p0 x14 p1 ha oq23a oq23b c7 t14 c17 t23 z26) (z_X11_group_53 ((G23.1 a 19).toInt) t23) (by decide) (by decide) (z_X11_group_13 ((G23.1 a 19).toInt) t23) (z_X11_group_55 (stF (aI (G23.2.1 (F a 17))) 0) z26) (z_X11_group_56 ((G23.1 a 19).toInt) (aI (G23.2.1 (F a 17)) (0 - 1)) (aI (G23.2.1 (F a 17)) 0)) (z_X11_group_57 p0.toInt) (z_X11_group_58 ((G23.1 a 19).toInt) t23) (z_X11_group_59 ((G23.1 a 19).toInt) t23) (by decide) hT hS (lv_sub hl [3, 4, 5, 2, 1, 0] rfl)
    · refine lv_iconst (v := (-1)) hx hb dX11_group_20 (by decide) ?_
      exact x_ri hx hb hr hlk hQ (Nat.le_of_ble_eq_true rfl) (Nat.le_of_ble_eq_true rfl) hS dX11_group_21 G2 ⟨_, rfl, (by rw [hG2]; exact XFr.dput XFr.rf (List.mem_of_getElem? (i := 0) rfl)), (by rw [((by decide) : Int32.toInt (-1) = (-1 : Int))] <;> exact (v_X11_group_21_15 (K := K) (F := F) a G p0 x14 p1 ha c7 t14 c17))⟩ hT

theorem z_X11_all_1 (a0 : Int) (a1 : Int) (h0 : 0 ≤ a0 ∧ a0 ≤ a1) (h1 : 0 ≤ a1 ∧ a1 ≤ 12) : ¬ (100 - a0 < ((0 : Nat) : Int)) := by omega
theorem z_X11_all_2 (a0 : Int) (a1 : Int) (h0 : 0 ≤ a0 ∧ a0 ≤ a1) (h1 : ¬ (a1 ≤ a0)) : 0 ≤ a0 ∧ a0 < a1 := by omega
theorem z_X11_all_3 (a0 : Int) (a1 : Int) (h0 : 0 ≤ a1 ∧ a1 ≤ 12) (h1 : 0 ≤ a0 ∧ a0 ≤ a1) (h2 : ¬ (a1 ≤ a0)) : 0 ≤ a0 ∧ a0 < ((12 : Nat) : Int) := by omega
theorem z_X11_all_4 (a0 : Int) (h0 : 0 ≤ a0) (h1 : a0 ≤ 11) : 0 ≤ a0 ∧ a0 ≤ 11 := by omega
theorem z_X11_all_8 (a0 : Int) (a1 : Int) (a2 : Int) (h0 : 0 ≤ a2 ∧ a2 ≤ 12) (h1 : 0 ≤ a0 ∧ a0 ≤ a2) (h2 : a1 = (a0 + 1) ∨ (a0 + 1) < -2147483648 ∨ 2147483648 ≤ (a0 + 1)) : a1 = (a0 + 1) := by omega
theorem z_X11_all_9 (a0 : Int) (a1 : Int) (h0 : 0 ≤ a0 ∧ a0 ≤ a1) (h1 : ¬ (a1 ≤ a0)) : 0 ≤ (a0 + 1) ∧ (a0 + 1) ≤ a1 := by omega
theorem z_X11_all_10 (a0 : Int) (a1 : Int) (a2 : Int) (a3 : Int) (a4 : Int) (a5 : Int) (h0 : ((a3 = 2 ∨ a3 = 4 ∨ a3 = 5) ∧ a4 = 0 ∧ a5 = 29) ∨ (¬ (a3 = 2 ∨ a3 = 4 ∨ a3 = 5) ∧ a4 = -99 ∧ a5 = 99)) (h1 : a4 ≤ a2 ∧ a2 ≤ a5 + 1) (h2 : 0 ≤ a0 ∧ a0 ≤ 199 * a1 + (a2 - a4)) : 0 ≤ a0 ∧ a0 ≤ 199 * (a1 + 1) := by omega
theorem z_X11_all_11 (a0 : Int) (a1 : Nat) (h0 : 100 - a0 < ((a1 + 1 : Nat) : Int)) : 100 - (a0 + 1) < ((a1 : Nat) : Int) := by omega
theorem z_X11_all_15 (a0 : Int) (a1 : Int) (a2 : Int) (h0 : a1 ≤ a0 ∧ a0 ≤ a2 + 1) (h1 : ¬ (a2 < a0)) : a1 ≤ a0 ∧ a0 ≤ a2 := by omega
theorem z_X11_all_16 (a0 : Int) (a1 : Int) (a2 : Int) (a3 : Int) (a4 : Int) (h0 : ((a2 = 2 ∨ a2 = 4 ∨ a2 = 5) ∧ a3 = 0 ∧ a4 = 29) ∨ (¬ (a2 = 2 ∨ a2 = 4 ∨ a2 = 5) ∧ a3 = -99 ∧ a4 = 99)) (h1 : ¬ (a4 < a0)) (h2 : a1 = (a0 + 1) ∨ (a0 + 1) < -2147483648 ∨ 2147483648 ≤ (a0 + 1)) (h3 : -2147483648 ≤ a0 ∧ a0 < 2147483648) : a1 = (a0 + 1) := by omega
theorem z_X11_all_17 (a0 : Int) (a1 : Int) (a2 : Int) (h0 : a1 ≤ a0 ∧ a0 ≤ a2 + 1) (h1 : ¬ (a2 < a0)) : a1 ≤ (a0 + 1) ∧ (a0 + 1) ≤ a2 + 1 := by omega
theorem z_X11_all_18 (a0 : Int) (a1 : Int) (a2 : Int) (a3 : Int) (h0 : 0 ≤ a0 ∧ a0 ≤ 199 * a1 + (a2 - a3)) : 0 ≤ a0 ∧ a0 ≤ 199 * a1 + ((a2 + 1) - a3) := by omega
theorem z_X11_all_20 (a0 : Int) (a1 : Int) (a2 : Int) (a3 : Int) (a4 : Int) (a5 : Int) (a6 : Int) (a7 : Int) (h0 : 0 ≤ a4 ∧ a4 ≤ 12) (h1 : ¬ (a4 ≤ a1)) (h2 : ((a5 = 2 ∨ a5 = 4 ∨ a5 = 5) ∧ a6 = 0 ∧ a7 = 29) ∨ (¬ (a5 = 2 ∨ a5 = 4 ∨ a5 = 5) ∧ a6 = -99 ∧ a7 = 99)) (h3 : 0 ≤ a0 ∧ a0 ≤ 199 * a1 + (a2 - a6)) (h4 : ¬ (a7 < a2)) (h5 : a3 = (a0 + 1) ∨ (a0 + 1) < -2147483648 ∨ 2147483648 ≤ (a0 + 1)) : a3 = (a0 + 1) := by omega
theorem z_X11_all_23 (a0 : Int) (a1 : Int) (a2 : Int) (a3 : Int) (h0 : 0 ≤ a0 ∧ a0 ≤ 199 * a1 + (a2 - a3)) : 0 ≤ (a0 + 1) ∧ (a0 + 1) ≤ 199 * a1 + ((a2 + 1) - a3) := by omega
theorem z_X11_all_25 (a0 : Int) (a1 : Int) (h0 : a0 ≠ 0) (h1 : ¬ (a0 ≠ 0)) : a1 = (a0 + 1) := by omega
theorem z_X11_all_26 (a0 : Int) (a1 : Int) (a2 : Int) (h0 : a0 ≠ 0) (h1 : ¬ (a0 ≠ 0)) : a2 = (a1 + 1) := by omega
theorem z_X11_all_31 (a0 : Int) (a1 : Int) (h0 : ¬ (a0 ≠ 0)) (h1 : a0 ≠ 0) : a1 = (a0 + 1) := by omega
theorem z_X11_all_32 (a0 : Int) (a1 : Int) (a2 : Int) (h0 : ¬ (a0 ≠ 0)) (h1 : a0 ≠ 0) : a2 = (a1 + 1) := by omega
theorem z_X11_all_36 (a0 : Int) (a1 : Int) (h0 : ¬ (a0 ≠ 0)) (h1 : a1 = (a0 + 1) ∨ (a0 + 1) < -2147483648 ∨ 2147483648 ≤ (a0 + 1)) : a1 = (a0 + 1) := by omega
theorem z_X11_all_41 (a0 : Int) (a1 : Int) (a2 : Int) (h0 : ((a0 = 2 ∨ a0 = 4 ∨ a0 = 5) ∧ a1 = 0 ∧ a2 = 29) ∨ (¬ (a0 = 2 ∨ a0 = 4 ∨ a0 = 5) ∧ a1 = -99 ∧ a2 = 99)) : a1 ≤ a1 ∧ a1 ≤ a2 + 1 := by omega
theorem z_X11_all_42 (a0 : Int) (a1 : Int) (a2 : Int) (h0 : 0 ≤ a0 ∧ a0 ≤ 199 * a1) : 0 ≤ a0 ∧ a0 ≤ 199 * a1 + (a2 - a2) := by omega
theorem z_X11_all_43 (a0 : Int) (a1 : Int) (a2 : Int) (h0 : ((a0 = 2 ∨ a0 = 4 ∨ a0 = 5) ∧ a1 = 0 ∧ a2 = 29) ∨ (¬ (a0 = 2 ∨ a0 = 4 ∨ a0 = 5) ∧ a1 = -99 ∧ a2 = 99)) : 2147483648 - a1 < ((4294967297 : Nat) : Int) := by omega
theorem z_X11_all_44 (a0 : Int) (h0 : 0 ≤ a0 ∧ a0 ≤ 12) : 0 ≤ (0 : Int) ∧ (0 : Int) ≤ a0 := by omega
abbrev rm_X11_all : Room := { frames := 4, cells := 0, slots := 0, locals := 104 }
set_option maxHeartbeats 4000000 in
set_option maxRecDepth 100000 in
theorem c_X11_all (l : Launch) (E : XE) (K : Nat → Nat) (F : Nat → Nat → Nat) (G : XG) (a : Nat) (p0 : Int32) (ha : K a = 13) (hR : RV (G.2.1 (F a 10))) (hM : RM (G.2.1 (F a 1)) (0)) : Met l yX11_all (xw yX11_all cX11_all 7 (some .int)) rm_X11_all (va_Pc [.ref a, .int p0] (XP E K F G)) (XQ E (fun v (u : XG) => ∃ r : Int32, v = .int r ∧ XFr [(a, 0), (a, 16)] [F a 15] [] G u ∧ ((¬ (0 ≤ p0.toInt ∧ p0.toInt ≤ 2) ∧ r.toInt = -2147483648) ∨ ((0 ≤ p0.toInt ∧ p0.toInt ≤ 2) ∧ r.toInt = alS p0.toInt (faO (G.2.1 (F a 10)) (mw (G.2.1 (F a 1)) 0))))) (fun u H => TW E K F u H)) 0 0 (xA E) := by
  refine x_enter (by decide) (Nat.le_of_ble_eq_true rfl) ?_
  intro p e s m args below meth c Q S hr hlk hnm hQ hP ls hl
  obtain ⟨hz, hK, hT⟩ := hP
  obtain ⟨hx, hb, -, -, -⟩ := id S
  obtain ⟨H, hT, hS, hgo⟩ : ∃ H : Heap, TW E K F G H ∧ va_S (xA E) s.heap H [] ∧ H = s.heap := ⟨_, hT, va_S.rf, rfl⟩
  rw [← hgo]
  have hl : lv_has ls 7 [(0, .ref a), (1, .int p0)] := hl
  obtain ⟨hk9999, hj9999⟩ := fkX11_15 hT ha
  obtain ⟨hk9999a, hj9999a⟩ := fkX11_10 hT ha
  obtain ⟨hk9999b, hj9999b⟩ := fkX11_1 hT ha
  refine lv_aload_n hx hb dX11_all_0 rfl (lv_at hl 0 rfl) ?_
  refine lv_iconst (v := 0) hx hb dX11_all_1 (by decide) ?_
  refine pX11_0 (v := 0) S hK hT hS ha kf_X11_134 dX11_all_2 (fun H locs hT hS => ?_)
  obtain ⟨G2, hG2⟩ : ∃ GG : XG, GG = dput G a 0 0 := ⟨_, rfl⟩
  rw [← hG2] at hT
  refine lv_iload_n hx hb dX11_all_5 rfl (lv_at hl 1 rfl) ?_
  refine lv_i2l (v := p0.toInt64) hx hb dX11_all_6 rfl ?_
  refine lv_lconst (v := (0 : Int64)) hx hb dX11_all_7 (by decide) ?_
  refine lv_ldc2 (v := 2) hx hb S.2.2.2.1 (S.2.2.2.2 _ (List.mem_cons_of_mem _ kc_X11_137)) dX11_all_8 ?_
  refine x_clp (x_runS (As := [.long p0.toInt64, .long (0 : Int64), .long (2 : Int64)]) (rest := []) S (c_X11_in l E K F G2 H p0.toInt64 p0.toInt (0 : Int64) (0 : Int) (2 : Int64) (2 : Int) (xl_i2l (rfl : Int32.toInt p0 = p0.toInt)) (by decide) (by decide)) ms_X11_in km_X11_139 rfl rfl ⟨Nat.le_of_ble_eq_true rfl, Nat.le_of_ble_eq_true rfl⟩ hK (fun _ => XPh.blind) (fun U hU hW => XPh.at hK hz hS hT hU hW) rfl hl.1 (Nat.le_of_ble_eq_true rfl) dX11_all_11 ⟨Nat.le_of_ble_eq_true rfl, Nat.le_of_ble_eq_true rfl⟩) hS ?_
  rintro _ _ locs ⟨x11, rfl, b11, t11⟩ hS
  have t11 : (x11.toInt = 1 ∧ (0 : Int) ≤ p0.toInt ∧ p0.toInt ≤ (2 : Int)) ∨ (x11.toInt = 0 ∧ (p0.toInt < (0 : Int) ∨ (2 : Int) < p0.toInt)) := t11
  refine xi_zne (tgt := 20) hx hb (rfl : Int32.toInt x11 = x11.toInt) dX11_all_14 (by decide) (fun c14 => ?_) (fun c14 => ?_)
  · refine lv_aload_n hx hb dX11_all_20 rfl (lv_at hl 0 rfl) ?_
    refine x_cv0 (x_runV (b := a) (As := []) (rest := []) S (c_X11_layOrder l E K F G2 a ha (v_X11_all_21_1 (F := F) a G2 G hR (ld_c hG2))) mv_X11_layOrder km_X11_200 rfl rfl ⟨Nat.le_of_ble_eq_true rfl, Nat.le_of_ble_eq_true rfl⟩ (rc_13 hK hT ha) hK (fun _ => XP.blind) (fun U hU hW => XP.at hK hz hS hT hU hW) rfl hl.1 (Nat.le_of_ble_eq_true rfl) dX11_all_21 ⟨Nat.le_of_ble_eq_true rfl, Nat.le_of_ble_eq_true rfl⟩) hS ?_
    rintro G21 H locs ⟨hF21, oq21, oq21a⟩ hT hS
    have oq21 : ORm (G.2.1 (F a 10)) (G21.2.1 (F a 15)) ((G21.1 a 16).toInt) 12 := by simp only [(show G2.2.1 (F a 10) = G.2.1 (F a 10) from (ld_c hG2))] at oq21; exact oq21
    have z24 : 0 ≤ ((G21.1 a 16).toInt) ∧ ((G21.1 a 16).toInt) ≤ 12 := by have h9 := ordN_le (prM (G.2.1 (F a 10))) (rkM (G.2.1 (F a 10))) 12; rw [oq21.1]; omega
    refine lv_iconst (v := 0) hx hb dX11_all_24 (by decide) ?_
    refine lv_istore_n (lv' := [(2, .int 0), (0, .ref a), (1, .int p0)]) hx hb dX11_all_25 rfl hl (by decide) rfl (fun ls hl => ?_)
    refine lv_ldc (v := (-2147483648)) hx hb S.2.2.2.1 (S.2.2.2.2 _ (List.mem_cons_of_mem _ kc_X11_57)) dX11_all_26 ?_
    refine lv_istore_n (lv' := [(3, .int (-2147483648)), (2, .int 0), (0, .ref a), (1, .int p0)]) hx hb dX11_all_28 rfl hl (by decide) rfl (fun ls hl => ?_)
    refine lv_ldc (v := (-2147483648)) hx hb S.2.2.2.1 (S.2.2.2.2 _ (List.mem_cons_of_mem _ kc_X11_57)) dX11_all_29 ?_
    refine lv_istore (lv' := [(4, .int (-2147483648)), (3, .int (-2147483648)), (2, .int 0), (0, .ref a), (1, .int p0)]) hx hb dX11_all_31 hl (by decide) rfl (fun ls hl => ?_)
    refine lv_iconst (v := 0) hx hb dX11_all_33 (by decide) ?_
    refine lv_istore (lv' := [(5, .int 0), (4, .int (-2147483648)), (3, .int (-2147483648)), (2, .int 0), (0, .ref a), (1, .int p0)]) hx hb dX11_all_34 hl (by decide) rfl (fun ls hl => ?_)
    have L36 : ∀ (N36 : Nat) (l2_36 : Int32) (l3_36 : Int32) (l4_36 : Int32) (l5_36 : Int32) (H : Heap) (locs : List Loc) (ls : Array Slot), TrA l2_36.toInt l3_36.toInt l4_36.toInt (faL (G.2.1 (F a 10)) (mw (G.2.1 (F a 1)) 0) (ordN (prM (G.2.1 (F a 10))) (rkM (G.2.1 (F a 10))) 12).2 (l5_36.toInt).toNat) → 0 ≤ l5_36.toInt ∧ l5_36.toInt ≤ ((G21.1 a 16).toInt) → 0 ≤ l2_36.toInt ∧ l2_36.toInt ≤ 199 * l5_36.toInt → 100 - l5_36.toInt < ((N36 : Nat) : Int) → TW E K F G21 H → va_S (xA E) s.heap H locs → lv_has ls 7 [(0, .ref a), (1, .int p0), (2, .int l2_36), (3, .int l3_36), (4, .int l4_36), (5, .int l5_36)] → W p l e rm_X11_all s m args below meth c H locs 0 0 Q (F0 m 36 ls []) := by
      intro N36
      induction N36 with
      | zero =>
        intro l2_36 l3_36 l4_36 l5_36 H locs ls pa I36_0 I36_1 hm36
        exact absurd hm36 (z_X11_all_1 l5_36.toInt ((G21.1 a 16).toInt) I36_0 z24)
      | succ N36 ih36 =>
        intro l2_36 l3_36 l4_36 l5_36 H locs ls pa I36_0 I36_1 hm36 hT hS hl
        refine lv_iload hx hb dX11_all_36 (lv_at hl 5 rfl) ?_
        refine lv_aload_n hx hb dX11_all_38 rfl (lv_at hl 0 rfl) ?_
        refine gX11_16 S hK hT ha kf_X11_197 dX11_all_39 (v := (G21.1 a 16)) rfl (?_)
        refine xi_cge (tgt := 139) hx hb (rfl : Int32.toInt l5_36 = l5_36.toInt) (rfl : Int32.toInt (G21.1 a 16) = ((G21.1 a 16).toInt)) dX11_all_42 (by decide) (fun c42 => ?_) (fun c42 => ?_)
        · refine lv_iload_n hx hb dX11_all_139 rfl (lv_at hl 1 rfl) ?_
          refine xi_zne (tgt := 147) hx hb (rfl : Int32.toInt p0 = p0.toInt) dX11_all_140 (by decide) (fun c140 => ?_) (fun c140 => ?_)
          · refine lv_iload_n hx hb dX11_all_147 rfl (lv_at hl 2 rfl) ?_
            refine xi_zne (tgt := 155) hx hb (rfl : Int32.toInt l2_36 = l2_36.toInt) dX11_all_148 (by decide) (fun c148 => ?_) (fun c148 => ?_)
            · refine lv_iload_n hx hb dX11_all_155 rfl (lv_at hl 1 rfl) ?_
              refine lv_iconst (v := 1) hx hb dX11_all_156 (by decide) ?_
              refine xi_cne (tgt := 164) hx hb (rfl : Int32.toInt p0 = p0.toInt) ((by decide) : Int32.toInt 1 = (1 : Int)) dX11_all_157 (by decide) (fun c157 => ?_) (fun c157 => ?_)
              · refine lv_iload hx hb dX11_all_164 (lv_at hl 4 rfl) ?_
                exact x_ri hx hb hr hlk hQ (Nat.le_of_ble_eq_true rfl) (Nat.le_of_ble_eq_true rfl) hS dX11_all_166 G21 ⟨_, rfl, (XFr.call (by rw [hG2]; exact XFr.dput XFr.rf (List.mem_of_getElem? (i := 0) rfl)) hF21 (xm1 1 rfl xm0) (xm1 0 rfl xm0) xm0), (v_X11_all_166_2 (K := K) (F := F) a G2 G G21 l2_36 l3_36 l4_36 l5_36 x11 p0 N36 ha oq21 oq21a pa t11 c14 z24 I36_0 I36_1 hm36 c42 c140 c148 c157)⟩ hT
              · refine lv_iload_n hx hb dX11_all_160 rfl (lv_at hl 3 rfl) ?_
                refine lv_goto (tgt := 166) hx hb dX11_all_161 (by decide) ?_
                exact x_ri hx hb hr hlk hQ (Nat.le_of_ble_eq_true rfl) (Nat.le_of_ble_eq_true rfl) hS dX11_all_166 G21 ⟨_, rfl, (XFr.call (by rw [hG2]; exact XFr.dput XFr.rf (List.mem_of_getElem? (i := 0) rfl)) hF21 (xm1 1 rfl xm0) (xm1 0 rfl xm0) xm0), (v_X11_all_166_3 (K := K) (F := F) a G2 G G21 l2_36 l3_36 l4_36 l5_36 x11 p0 N36 ha oq21 oq21a pa t11 c14 z24 I36_0 I36_1 hm36 c42 c140 c148 c157)⟩ hT
            · refine lv_iconst (v := (-1)) hx hb dX11_all_151 (by decide) ?_
              refine lv_goto (tgt := 166) hx hb dX11_all_152 (by decide) ?_
              exact x_ri hx hb hr hlk hQ (Nat.le_of_ble_eq_true rfl) (Nat.le_of_ble_eq_true rfl) hS dX11_all_166 G21 ⟨_, rfl, (XFr.call (by rw [hG2]; exact XFr.dput XFr.rf (List.mem_of_getElem? (i := 0) rfl)) hF21 (xm1 1 rfl xm0) (xm1 0 rfl xm0) xm0), (by rw [((by decide) : Int32.toInt (-1) = (-1 : Int))] <;> exact (v_X11_all_166_4 (K := K) (F := F) a G2 G G21 l2_36 l3_36 l4_36 l5_36 x11 p0 N36 ha oq21 oq21a pa t11 c14 z24 I36_0 I36_1 hm36 c42 c140 c148))⟩ hT
          · refine lv_iload_n hx hb dX11_all_143 rfl (lv_at hl 2 rfl) ?_
            refine lv_goto (tgt := 166) hx hb dX11_all_144 (by decide) ?_
            exact x_ri hx hb hr hlk hQ (Nat.le_of_ble_eq_true rfl) (Nat.le_of_ble_eq_true rfl) hS dX11_all_166 G21 ⟨_, rfl, (XFr.call (by rw [hG2]; exact XFr.dput XFr.rf (List.mem_of_getElem? (i := 0) rfl)) hF21 (xm1 1 rfl xm0) (xm1 0 rfl xm0) xm0), (v_X11_all_166_5 (K := K) (F := F) a G2 G G21 l2_36 l3_36 l4_36 l5_36 x11 p0 N36 ha oq21 oq21a pa t11 c14 z24 I36_0 I36_1 hm36 c42 c140)⟩ hT
        · have z45 : 0 ≤ (aI (G21.2.1 (F a 15)) (l5_36.toInt)) ∧ (aI (G21.2.1 (F a 15)) (l5_36.toInt)) ≤ 11 ∧ (aI (G.2.1 (F a 10)) (10 * (aI (G21.2.1 (F a 15)) (l5_36.toInt)) + 0)) ≠ -1 := oq21.ent (by decide) (z_X11_all_2 l5_36.toInt ((G21.1 a 16).toInt) I36_0 c42)
          have z45a : (((aI (G.2.1 (F a 10)) (10 * (aI (G21.2.1 (F a 15)) (l5_36.toInt)) + 0)) = 2 ∨ (aI (G.2.1 (F a 10)) (10 * (aI (G21.2.1 (F a 15)) (l5_36.toInt)) + 0)) = 4 ∨ (aI (G.2.1 (F a 10)) (10 * (aI (G21.2.1 (F a 15)) (l5_36.toInt)) + 0)) = 5) ∧ (sF (aI (G.2.1 (F a 10)) (10 * (aI (G21.2.1 (F a 15)) (l5_36.toInt)) + 0))) = 0 ∧ (sL (aI (G.2.1 (F a 10)) (10 * (aI (G21.2.1 (F a 15)) (l5_36.toInt)) + 0))) = 29) ∨ (¬ ((aI (G.2.1 (F a 10)) (10 * (aI (G21.2.1 (F a 15)) (l5_36.toInt)) + 0)) = 2 ∨ (aI (G.2.1 (F a 10)) (10 * (aI (G21.2.1 (F a 15)) (l5_36.toInt)) + 0)) = 4 ∨ (aI (G.2.1 (F a 10)) (10 * (aI (G21.2.1 (F a 15)) (l5_36.toInt)) + 0)) = 5) ∧ (sF (aI (G.2.1 (F a 10)) (10 * (aI (G21.2.1 (F a 15)) (l5_36.toInt)) + 0))) = -99 ∧ (sL (aI (G.2.1 (F a 10)) (10 * (aI (G21.2.1 (F a 15)) (l5_36.toInt)) + 0))) = 99) := sFL _
          refine lv_aload_n hx hb dX11_all_45 rfl (lv_at hl 0 rfl) ?_
          refine lv_aload_n hx hb dX11_all_46 rfl (lv_at hl 0 rfl) ?_
          refine gX11_15 S hK hT ha kf_X11_48 dX11_all_47 (fun _ _ => ?_)
          refine lv_iload hx hb dX11_all_50 (lv_at hl 5 rfl) ?_
          refine al_0 S hK hT hk9999 ar_42 (by decide) (z_X11_all_3 l5_36.toInt ((G21.1 a 16).toInt) z24 I36_0 c42) dX11_all_52 (fun x52 hv52 o52 => ?_)
          have hv52 : x52.toInt = (aI (G21.2.1 (F a 15)) (l5_36.toInt)) := hv52.trans (by rw [(rfl : Int32.toInt l5_36 = l5_36.toInt)])
          refine x_clp (x_runV (b := a) (As := [.int x52]) (rest := []) S (c_X11_firstSubject l E K F G21 H a x52 ha (by rw [(hv52 : Int32.toInt x52 = (aI (G21.2.1 (F a 15)) (l5_36.toInt)))] <;> exact (z_X11_all_4 (aI (G21.2.1 (F a 15)) (l5_36.toInt)) (z45).1 (z45).2.1))) mv_X11_firstSubject km_X11_179 rfl rfl ⟨Nat.le_of_ble_eq_true rfl, Nat.le_of_ble_eq_true rfl⟩ (rc_13 hK hT ha) hK (fun _ => XPh.blind) (fun U hU hW => XPh.at hK hz hS hT hU hW) rfl hl.1 (Nat.le_of_ble_eq_true rfl) dX11_all_53 ⟨Nat.le_of_ble_eq_true rfl, Nat.le_of_ble_eq_true rfl⟩) hS ?_
          rintro _ _ locs ⟨x53, rfl, t53⟩ hS
          have t53 : x53.toInt = (sF (aI (G.2.1 (F a 10)) (10 * (aI (G21.2.1 (F a 15)) (l5_36.toInt)) + 0))) := by rw [(hv52 : Int32.toInt x52 = (aI (G21.2.1 (F a 15)) (l5_36.toInt)))] at t53; rw [(show G21.2.1 (F a 10) = G.2.1 (F a 10) from ((hF21.2.1 _ (xn1 (xne_k hk9999a hk9999 (by decide)) xn0)).trans (ld_c hG2)))] at t53; exact t53
          refine lv_istore (lv' := [(6, .int x53), (0, .ref a), (1, .int p0), (2, .int l2_36), (3, .int l3_36), (4, .int l4_36), (5, .int l5_36)]) hx hb dX11_all_56 hl (by decide) rfl (fun ls hl => ?_)
          have L58 : ∀ (N58 : Nat) (l2_58 : Int32) (l3_58 : Int32) (l4_58 : Int32) (l6_58 : Int32) (H : Heap) (locs : List Loc) (ls : Array Slot), TrA l2_58.toInt l3_58.toInt l4_58.toInt (faL (G.2.1 (F a 10)) (mw (G.2.1 (F a 1)) 0) (ordN (prM (G.2.1 (F a 10))) (rkM (G.2.1 (F a 10))) 12).2 (l5_36.toInt).toNat ++ fap (G.2.1 (F a 10)) (mw (G.2.1 (F a 1)) 0) (aI (G21.2.1 (F a 15)) (l5_36.toInt)) l6_58.toInt) → (sF (aI (G.2.1 (F a 10)) (10 * (aI (G21.2.1 (F a 15)) (l5_36.toInt)) + 0))) ≤ l6_58.toInt ∧ l6_58.toInt ≤ (sL (aI (G.2.1 (F a 10)) (10 * (aI (G21.2.1 (F a 15)) (l5_36.toInt)) + 0))) + 1 → 0 ≤ l2_58.toInt ∧ l2_58.toInt ≤ 199 * l5_36.toInt + (l6_58.toInt - (sF (aI (G.2.1 (F a 10)) (10 * (aI (G21.2.1 (F a 15)) (l5_36.toInt)) + 0)))) → 2147483648 - l6_58.toInt < ((N58 : Nat) : Int) → TW E K F G21 H → va_S (xA E) s.heap H locs → lv_has ls 7 [(0, .ref a), (1, .int p0), (2, .int l2_58), (3, .int l3_58), (4, .int l4_58), (5, .int l5_36), (6, .int l6_58)] → W p l e rm_X11_all s m args below meth c H locs 0 0 Q (F0 m 58 ls []) := by
            intro N58
            induction N58 with
            | zero =>
              intro l2_58 l3_58 l4_58 l6_58 H locs ls pi I58_0 I58_1 hm58
              exact absurd hm58 (z_X11_first_1 l6_58.toInt (xr l6_58))
            | succ N58 ih58 =>
              intro l2_58 l3_58 l4_58 l6_58 H locs ls pi I58_0 I58_1 hm58 hT hS hl
              refine lv_iload hx hb dX11_all_58 (lv_at hl 6 rfl) ?_
              refine lv_aload_n hx hb dX11_all_60 rfl (lv_at hl 0 rfl) ?_
              refine lv_aload_n hx hb dX11_all_61 rfl (lv_at hl 0 rfl) ?_
              refine gX11_15 S hK hT ha kf_X11_48 dX11_all_62 (fun _ _ => ?_)
              refine lv_iload hx hb dX11_all_65 (lv_at hl 5 rfl) ?_
              refine al_0 S hK hT hk9999 ar_42 (by decide) (z_X11_all_3 l5_36.toInt ((G21.1 a 16).toInt) z24 I36_0 c42) dX11_all_67 (fun x67 hv67 o67 => ?_)
              have hv67 : x67.toInt = (aI (G21.2.1 (F a 15)) (l5_36.toInt)) := hv67.trans (by rw [(rfl : Int32.toInt l5_36 = l5_36.toInt)])
              refine x_clp (x_runV (b := a) (As := [.int x67]) (rest := [.int l6_58]) S (c_X11_lastSubject l E K F G21 H a x67 ha (by rw [(hv67 : Int32.toInt x67 = (aI (G21.2.1 (F a 15)) (l5_36.toInt)))] <;> exact (z_X11_all_4 (aI (G21.2.1 (F a 15)) (l5_36.toInt)) (z45).1 (z45).2.1))) mv_X11_lastSubject km_X11_183 rfl rfl ⟨Nat.le_of_ble_eq_true rfl, Nat.le_of_ble_eq_true rfl⟩ (rc_13 hK hT ha) hK (fun _ => XPh.blind) (fun U hU hW => XPh.at hK hz hS hT hU hW) rfl hl.1 (Nat.le_of_ble_eq_true rfl) dX11_all_68 ⟨Nat.le_of_ble_eq_true rfl, Nat.le_of_ble_eq_true rfl⟩) hS ?_
              rintro _ _ locs ⟨x68, rfl, t68⟩ hS
              have t68 : x68.toInt = (sL (aI (G.2.1 (F a 10)) (10 * (aI (G21.2.1 (F a 15)) (l5_36.toInt)) + 0))) := by rw [(hv67 : Int32.toInt x67 = (aI (G21.2.1 (F a 15)) (l5_36.toInt)))] at t68; rw [(show G21.2.1 (F a 10) = G.2.1 (F a 10) from ((hF21.2.1 _ (xn1 (xne_k hk9999a hk9999 (by decide)) xn0)).trans (ld_c hG2)))] at t68; exact t68
              refine xi_cgt (tgt := 133) hx hb (rfl : Int32.toInt l6_58 = l6_58.toInt) (t68 : Int32.toInt x68 = (sL (aI (G.2.1 (F a 10)) (10 * (aI (G21.2.1 (F a 15)) (l5_36.toInt)) + 0)))) dX11_all_71 (by decide) (fun c71 => ?_) (fun c71 => ?_)
              · refine xi_iinc (n := 1) (lv' := fun z9 => [(5, .int z9), (0, .ref a), (1, .int p0), (2, .int l2_58), (3, .int l3_58), (4, .int l4_58), (6, .int l6_58)]) (k := 5) hx hb (rfl : Int32.toInt l5_36 = l5_36.toInt) (by decide) dX11_all_133 hl rfl (by decide) (fun _ => rfl) (fun x133 ls t133 hl => ?_)
                have e133 : x133.toInt = (l5_36.toInt + 1) := (z_X11_all_8 l5_36.toInt x133.toInt ((G21.1 a 16).toInt) z24 I36_0 t133)
                have hl : lv_has ls 7 [(5, .int x133), (0, .ref a), (1, .int p0), (2, .int l2_58), (3, .int l3_58), (4, .int l4_58), (6, .int l6_58)] := hl
                refine lv_goto (tgt := 36) hx hb dX11_all_136 (by decide) ?_
                exact ih36 l2_58 l3_58 l4_58 x133 _ _ _ (by rw [(e133 : Int32.toInt x133 = (l5_36.toInt + 1))] <;> exact (v_X11_all_136_6 (K := K) (F := F) a G2 G G21 l2_36 l3_36 l4_36 l5_36 l2_58 l3_58 l4_58 l6_58 x11 p0 N36 N58 ha oq21 oq21a pa pi t11 c14 z24 I36_0 I36_1 hm36 c42 z45 z45a I58_0 I58_1 hm58 c71)) (by rw [(e133 : Int32.toInt x133 = (l5_36.toInt + 1))] <;> exact (z_X11_all_9 l5_36.toInt ((G21.1 a 16).toInt) I36_0 c42)) (by rw [(e133 : Int32.toInt x133 = (l5_36.toInt + 1))] <;> exact (z_X11_all_10 l2_58.toInt l5_36.toInt l6_58.toInt (aI (G.2.1 (F a 10)) (10 * (aI (G21.2.1 (F a 15)) (l5_36.toInt)) + 0)) (sF (aI (G.2.1 (F a 10)) (10 * (aI (G21.2.1 (F a 15)) (l5_36.toInt)) + 0))) (sL (aI (G.2.1 (F a 10)) (10 * (aI (G21.2.1 (F a 15)) (l5_36.toInt)) + 0))) z45a I58_0 I58_1)) (by rw [(e133 : Int32.toInt x133 = (l5_36.toInt + 1))] <;> exact (z_X11_all_11 l5_36.toInt N36 hm36)) hT hS (lv_sub hl [1, 2, 3, 4, 5, 0] rfl)
              · refine lv_aload_n hx hb dX11_all_74 rfl (lv_at hl 0 rfl) ?_
                refine lv_aload_n hx hb dX11_all_75 rfl (lv_at hl 0 rfl) ?_
                refine gX11_15 S hK hT ha kf_X11_48 dX11_all_76 (fun _ _ => ?_)
                refine lv_iload hx hb dX11_all_79 (lv_at hl 5 rfl) ?_
                refine al_0 S hK hT hk9999 ar_42 (by decide) (z_X11_all_3 l5_36.toInt ((G21.1 a 16).toInt) z24 I36_0 c42) dX11_all_81 (fun x81 hv81 o81 => ?_)
                have hv81 : x81.toInt = (aI (G21.2.1 (F a 15)) (l5_36.toInt)) := hv81.trans (by rw [(rfl : Int32.toInt l5_36 = l5_36.toInt)])
                refine lv_iload hx hb dX11_all_82 (lv_at hl 6 rfl) ?_
                refine lv_aload_n hx hb dX11_all_84 rfl (lv_at hl 0 rfl) ?_
                refine gX11_1 S hK hT ha kf_X11_9 dX11_all_85 (fun _ _ => ?_)
                refine lv_iconst (v := 0) hx hb dX11_all_88 (by decide) ?_
                refine x_clp (x_runV (b := a) (As := [.int x81, .int l6_58, .ref (F a 1), .int 0]) (rest := []) S (c_X11_fails l E K F G21 H a x81 l6_58 (F a 1) 0 ha (XO.a hk9999b (by decide)) (by rw [(hv81 : Int32.toInt x81 = (aI (G21.2.1 (F a 15)) (l5_36.toInt)))] <;> exact (z_X11_all_4 (aI (G21.2.1 (F a 15)) (l5_36.toInt)) (z45).1 (z45).2.1)) (by rw [(hv81 : Int32.toInt x81 = (aI (G21.2.1 (F a 15)) (l5_36.toInt))), (show G21.2.1 (F a 10) = G.2.1 (F a 10) from ((hF21.2.1 _ (xn1 (xne_k hk9999a hk9999 (by decide)) xn0)).trans (ld_c hG2)))] <;> exact ((z45).2.2)) (by rw [(hv81 : Int32.toInt x81 = (aI (G21.2.1 (F a 15)) (l5_36.toInt))), (show G21.2.1 (F a 10) = G.2.1 (F a 10) from ((hF21.2.1 _ (xn1 (xne_k hk9999a hk9999 (by decide)) xn0)).trans (ld_c hG2)))] <;> exact (z_X11_all_15 l6_58.toInt (sF (aI (G.2.1 (F a 10)) (10 * (aI (G21.2.1 (F a 15)) (l5_36.toInt)) + 0))) (sL (aI (G.2.1 (F a 10)) (10 * (aI (G21.2.1 (F a 15)) (l5_36.toInt)) + 0))) I58_0 c71)) (v_X11_all_89_7 (F := F) a G G21 hR ((hF21.2.1 _ (xn1 (xne_k hk9999a hk9999 (by decide)) xn0)).trans (ld_c hG2))) (v_X11_all_89_8 (F := F) a G G21 hM ((hF21.2.1 _ (xn1 (xne_k hk9999b hk9999 (by decide)) xn0)).trans (ld_c hG2)))) mv_X11_fails km_X11_221 rfl rfl ⟨Nat.le_of_ble_eq_true rfl, Nat.le_of_ble_eq_true rfl⟩ (rc_13 hK hT ha) hK (fun _ => XPh.blind) (fun U hU hW => XPh.at hK hz hS hT hU hW) rfl hl.1 (Nat.le_of_ble_eq_true rfl) dX11_all_89 ⟨Nat.le_of_ble_eq_true rfl, Nat.le_of_ble_eq_true rfl⟩) hS ?_
                rintro _ _ locs ⟨x89, rfl, b89, t89⟩ hS
                have t89 : x89.toInt = (flq (mw (G.2.1 (F a 1)) 0) (aI (G.2.1 (F a 10)) (10 * (aI (G21.2.1 (F a 15)) (l5_36.toInt)) + 0)) (aI (G.2.1 (F a 10)) (10 * (aI (G21.2.1 (F a 15)) (l5_36.toInt)) + 1)) (aI (G.2.1 (F a 10)) (10 * (aI (G21.2.1 (F a 15)) (l5_36.toInt)) + 2)) (aI (G.2.1 (F a 10)) (10 * (aI (G21.2.1 (F a 15)) (l5_36.toInt)) + 4)) (aI (G.2.1 (F a 10)) (10 * (aI (G21.2.1 (F a 15)) (l5_36.toInt)) + 5)) (l6_58.toInt) (stt (mw (G.2.1 (F a 1)) 0) (aI (G.2.1 (F a 10)) (10 * (aI (G21.2.1 (F a 15)) (l5_36.toInt)) + 0)) (aI (G.2.1 (F a 10)) (10 * (aI (G21.2.1 (F a 15)) (l5_36.toInt)) + 1)) (aI (G.2.1 (F a 10)) (10 * (aI (G21.2.1 (F a 15)) (l5_36.toInt)) + 2)) (aI (G.2.1 (F a 10)) (10 * (aI (G21.2.1 (F a 15)) (l5_36.toInt)) + 3)) (l6_58.toInt))) := by rw [(hv81 : Int32.toInt x81 = (aI (G21.2.1 (F a 15)) (l5_36.toInt)))] at t89; rw [(show G21.2.1 (F a 1) = G.2.1 (F a 1) from ((hF21.2.1 _ (xn1 (xne_k hk9999b hk9999 (by decide)) xn0)).trans (ld_c hG2)))] at t89; rw [(show G21.2.1 (F a 10) = G.2.1 (F a 10) from ((hF21.2.1 _ (xn1 (xne_k hk9999a hk9999 (by decide)) xn0)).trans (ld_c hG2)))] at t89; exact t89
                refine xi_zeq (tgt := 127) hx hb (rfl : Int32.toInt x89 = x89.toInt) dX11_all_92 (by decide) (fun c92 => ?_) (fun c92 => ?_)
                · refine xi_iinc (n := 1) (lv' := fun z9 => [(6, .int z9), (0, .ref a), (1, .int p0), (2, .int l2_58), (3, .int l3_58), (4, .int l4_58), (5, .int l5_36)]) (k := 6) hx hb (rfl : Int32.toInt l6_58 = l6_58.toInt) (by decide) dX11_all_127 hl rfl (by decide) (fun _ => rfl) (fun x127 ls t127 hl => ?_)
                  have e127 : x127.toInt = (l6_58.toInt + 1) := (z_X11_all_16 l6_58.toInt x127.toInt (aI (G.2.1 (F a 10)) (10 * (aI (G21.2.1 (F a 15)) (l5_36.toInt)) + 0)) (sF (aI (G.2.1 (F a 10)) (10 * (aI (G21.2.1 (F a 15)) (l5_36.toInt)) + 0))) (sL (aI (G.2.1 (F a 10)) (10 * (aI (G21.2.1 (F a 15)) (l5_36.toInt)) + 0))) z45a c71 t127 (xr l6_58))
                  have hl : lv_has ls 7 [(6, .int x127), (0, .ref a), (1, .int p0), (2, .int l2_58), (3, .int l3_58), (4, .int l4_58), (5, .int l5_36)] := hl
                  refine lv_goto (tgt := 58) hx hb dX11_all_130 (by decide) ?_
                  exact ih58 l2_58 l3_58 l4_58 x127 _ _ _ (by rw [(e127 : Int32.toInt x127 = (l6_58.toInt + 1))] <;> exact (v_X11_all_130_9 (K := K) (F := F) a G2 G G21 l2_36 l3_36 l4_36 l5_36 l2_58 l3_58 l4_58 l6_58 x11 p0 N36 N58 x89 ha oq21a pa pi t11 c14 z24 I36_0 I36_1 hm36 c42 z45 z45a I58_0 I58_1 hm58 c71 t89 (xzi b89) c92)) (by rw [(e127 : Int32.toInt x127 = (l6_58.toInt + 1))] <;> exact (z_X11_all_17 l6_58.toInt (sF (aI (G.2.1 (F a 10)) (10 * (aI (G21.2.1 (F a 15)) (l5_36.toInt)) + 0))) (sL (aI (G.2.1 (F a 10)) (10 * (aI (G21.2.1 (F a 15)) (l5_36.toInt)) + 0))) I58_0 c71)) (by rw [(e127 : Int32.toInt x127 = (l6_58.toInt + 1))] <;> exact (z_X11_all_18 l2_58.toInt l5_36.toInt l6_58.toInt (sF (aI (G.2.1 (F a 10)) (10 * (aI (G21.2.1 (F a 15)) (l5_36.toInt)) + 0))) I58_1)) (by rw [(e127 : Int32.toInt x127 = (l6_58.toInt + 1))] <;> exact (z_X11_first_14 l6_58.toInt N58 hm58)) hT hS (lv_sub hl [1, 2, 3, 4, 5, 6, 0] rfl)
                · refine lv_iload_n hx hb dX11_all_95 rfl (lv_at hl 2 rfl) ?_
                  refine xi_zne (tgt := 109) hx hb (rfl : Int32.toInt l2_58 = l2_58.toInt) dX11_all_96 (by decide) (fun c96 => ?_) (fun c96 => ?_)
                  · refine lv_iload_n hx hb dX11_all_109 rfl (lv_at hl 3 rfl) ?_
                    refine lv_istore_n (lv' := [(3, .int l3_58), (0, .ref a), (1, .int p0), (2, .int l2_58), (4, .int l4_58), (5, .int l5_36), (6, .int l6_58)]) hx hb dX11_all_110 rfl hl (by decide) rfl (fun ls hl => ?_)
                    refine lv_iload_n hx hb dX11_all_111 rfl (lv_at hl 3 rfl) ?_
                    refine xi_zne (tgt := 120) hx hb (rfl : Int32.toInt l2_58 = l2_58.toInt) dX11_all_112 (by decide) (fun c112 => ?_) (fun c112 => ?_)
                    · refine lv_iload hx hb dX11_all_120 (lv_at hl 4 rfl) ?_
                      refine lv_istore (lv' := [(4, .int l4_58), (3, .int l3_58), (0, .ref a), (1, .int p0), (2, .int l2_58), (5, .int l5_36), (6, .int l6_58)]) hx hb dX11_all_122 hl (by decide) rfl (fun ls hl => ?_)
                      refine xi_iinc (n := 1) (lv' := fun z9 => [(2, .int z9), (4, .int l4_58), (3, .int l3_58), (0, .ref a), (1, .int p0), (5, .int l5_36), (6, .int l6_58)]) (k := 4) hx hb (rfl : Int32.toInt l2_58 = l2_58.toInt) (by decide) dX11_all_124 hl rfl (by decide) (fun _ => rfl) (fun x124 ls t124 hl => ?_)
                      have e124 : x124.toInt = (l2_58.toInt + 1) := (z_X11_all_20 l2_58.toInt l5_36.toInt l6_58.toInt x124.toInt ((G21.1 a 16).toInt) (aI (G.2.1 (F a 10)) (10 * (aI (G21.2.1 (F a 15)) (l5_36.toInt)) + 0)) (sF (aI (G.2.1 (F a 10)) (10 * (aI (G21.2.1 (F a 15)) (l5_36.toInt)) + 0))) (sL (aI (G.2.1 (F a 10)) (10 * (aI (G21.2.1 (F a 15)) (l5_36.toInt)) + 0))) z24 c42 z45a I58_1 c71 t124)
                      have hl : lv_has ls 7 [(2, .int x124), (4, .int l4_58), (3, .int l3_58), (0, .ref a), (1, .int p0), (5, .int l5_36), (6, .int l6_58)] := hl
                      refine xi_iinc (n := 1) (lv' := fun z9 => [(6, .int z9), (2, .int x124), (4, .int l4_58), (3, .int l3_58), (0, .ref a), (1, .int p0), (5, .int l5_36)]) (k := 6) hx hb (rfl : Int32.toInt l6_58 = l6_58.toInt) (by decide) dX11_all_127 hl rfl (by decide) (fun _ => rfl) (fun x127 ls t127 hl => ?_)
                      have e127 : x127.toInt = (l6_58.toInt + 1) := (z_X11_all_16 l6_58.toInt x127.toInt (aI (G.2.1 (F a 10)) (10 * (aI (G21.2.1 (F a 15)) (l5_36.toInt)) + 0)) (sF (aI (G.2.1 (F a 10)) (10 * (aI (G21.2.1 (F a 15)) (l5_36.toInt)) + 0))) (sL (aI (G.2.1 (F a 10)) (10 * (aI (G21.2.1 (F a 15)) (l5_36.toInt)) + 0))) z45a c71 t127 (xr l6_58))
                      have hl : lv_has ls 7 [(6, .int x127), (2, .int x124), (4, .int l4_58), (3, .int l3_58), (0, .ref a), (1, .int p0), (5, .int l5_36)] := hl
                      refine lv_goto (tgt := 58) hx hb dX11_all_130 (by decide) ?_
                      exact ih58 x124 l3_58 l4_58 x127 _ _ _ (by rw [(e124 : Int32.toInt x124 = (l2_58.toInt + 1)), (e127 : Int32.toInt x127 = (l6_58.toInt + 1))] <;> exact (v_X11_all_130_10 (K := K) (F := F) a G2 G G21 l2_36 l3_36 l4_36 l5_36 l2_58 l3_58 l4_58 l6_58 x11 p0 N36 N58 x89 ha oq21a pa pi t11 c14 z24 I36_0 I36_1 hm36 c42 z45 z45a I58_0 I58_1 hm58 c71 t89 (xzi b89) c92 c96)) (by rw [(e127 : Int32.toInt x127 = (l6_58.toInt + 1))] <;> exact (z_X11_all_17 l6_58.toInt (sF (aI (G.2.1 (F a 10)) (10 * (aI (G21.2.1 (F a 15)) (l5_36.toInt)) + 0))) (sL (aI (G.2.1 (F a 10)) (10 * (aI (G21.2.1 (F a 15)) (l5_36.toInt)) + 0))) I58_0 c71)) (by rw [(e124 : Int32.toInt x124 = (l2_58.toInt + 1)), (e127 : Int32.toInt x127 = (l6_58.toInt + 1))] <;> exact (z_X11_all_23 l2_58.toInt l5_36.toInt l6_58.toInt (sF (aI (G.2.1 (F a 10)) (10 * (aI (G21.2.1 (F a 15)) (l5_36.toInt)) + 0))) I58_1)) (by rw [(e127 : Int32.toInt x127 = (l6_58.toInt + 1))] <;> exact (z_X11_first_14 l6_58.toInt N58 hm58)) hT hS (lv_sub hl [4, 5, 1, 3, 2, 6, 0] rfl)
                    · refine lv_iload hx hb dX11_all_115 (lv_at hl 6 rfl) ?_
                      refine lv_goto (tgt := 122) hx hb dX11_all_117 (by decide) ?_
                      refine lv_istore (lv' := [(4, .int l6_58), (3, .int l3_58), (0, .ref a), (1, .int p0), (2, .int l2_58), (5, .int l5_36), (6, .int l6_58)]) hx hb dX11_all_122 hl (by decide) rfl (fun ls hl => ?_)
                      refine xi_iinc (n := 1) (lv' := fun z9 => [(2, .int z9), (4, .int l6_58), (3, .int l3_58), (0, .ref a), (1, .int p0), (5, .int l5_36), (6, .int l6_58)]) (k := 4) hx hb (rfl : Int32.toInt l2_58 = l2_58.toInt) (by decide) dX11_all_124 hl rfl (by decide) (fun _ => rfl) (fun x124 ls t124 hl => ?_)
                      have e124 : x124.toInt = (l2_58.toInt + 1) := (z_X11_all_25 l2_58.toInt x124.toInt c96 c112)
                      have hl : lv_has ls 7 [(2, .int x124), (4, .int l6_58), (3, .int l3_58), (0, .ref a), (1, .int p0), (5, .int l5_36), (6, .int l6_58)] := hl
                      refine xi_iinc (n := 1) (lv' := fun z9 => [(6, .int z9), (2, .int x124), (4, .int l6_58), (3, .int l3_58), (0, .ref a), (1, .int p0), (5, .int l5_36)]) (k := 6) hx hb (rfl : Int32.toInt l6_58 = l6_58.toInt) (by decide) dX11_all_127 hl rfl (by decide) (fun _ => rfl) (fun x127 ls t127 hl => ?_)
                      have e127 : x127.toInt = (l6_58.toInt + 1) := (z_X11_all_26 l2_58.toInt l6_58.toInt x127.toInt c96 c112)
                      have hl : lv_has ls 7 [(6, .int x127), (2, .int x124), (4, .int l6_58), (3, .int l3_58), (0, .ref a), (1, .int p0), (5, .int l5_36)] := hl
                      refine lv_goto (tgt := 58) hx hb dX11_all_130 (by decide) ?_
                      exact ih58 x124 l3_58 l6_58 x127 _ _ _ (by rw [(e124 : Int32.toInt x124 = (l2_58.toInt + 1)), (e127 : Int32.toInt x127 = (l6_58.toInt + 1))] <;> exact (v_X11_all_130_11 (K := K) (F := F) a G2 G G21 l2_36 l3_36 l4_36 l5_36 l2_58 l3_58 l4_58 l6_58 x11 p0 N36 N58 x89 ha oq21a pa pi t11 c14 z24 I36_0 I36_1 hm36 c42 z45 z45a I58_0 I58_1 hm58 c71 t89 (xzi b89) c92 c96 c112)) (by rw [(e127 : Int32.toInt x127 = (l6_58.toInt + 1))] <;> exact (z_X11_all_17 l6_58.toInt (sF (aI (G.2.1 (F a 10)) (10 * (aI (G21.2.1 (F a 15)) (l5_36.toInt)) + 0))) (sL (aI (G.2.1 (F a 10)) (10 * (aI (G21.2.1 (F a 15)) (l5_36.toInt)) + 0))) I58_0 c71)) (by rw [(e124 : Int32.toInt x124 = (l2_58.toInt + 1)), (e127 : Int32.toInt x127 = (l6_58.toInt + 1))] <;> exact (z_X11_all_23 l2_58.toInt l5_36.toInt l6_58.toInt (sF (aI (G.2.1 (F a 10)) (10 * (aI (G21.2.1 (F a 15)) (l5_36.toInt)) + 0))) I58_1)) (by rw [(e127 : Int32.toInt x127 = (l6_58.toInt + 1))] <;> exact (z_X11_first_14 l6_58.toInt N58 hm58)) hT hS (lv_sub hl [4, 5, 1, 3, 2, 6, 0] rfl)
                  · refine lv_aload_n hx hb dX11_all_99 rfl (lv_at hl 0 rfl) ?_
                    refine gX11_15 S hK hT ha kf_X11_48 dX11_all_100 (fun _ _ => ?_)
                    refine lv_iload hx hb dX11_all_103 (lv_at hl 5 rfl) ?_
                    refine al_0 S hK hT hk9999 ar_42 (by decide) (z_X11_all_3 l5_36.toInt ((G21.1 a 16).toInt) z24 I36_0 c42) dX11_all_105 (fun x105 hv105 o105 => ?_)
                    have hv105 : x105.toInt = (aI (G21.2.1 (F a 15)) (l5_36.toInt)) := hv105.trans (by rw [(rfl : Int32.toInt l5_36 = l5_36.toInt)])
                    refine lv_goto (tgt := 110) hx hb dX11_all_106 (by decide) ?_
                    refine lv_istore_n (lv' := [(3, .int x105), (0, .ref a), (1, .int p0), (2, .int l2_58), (4, .int l4_58), (5, .int l5_36), (6, .int l6_58)]) hx hb dX11_all_110 rfl hl (by decide) rfl (fun ls hl => ?_)
                    refine lv_iload_n hx hb dX11_all_111 rfl (lv_at hl 3 rfl) ?_
                    refine xi_zne (tgt := 120) hx hb (rfl : Int32.toInt l2_58 = l2_58.toInt) dX11_all_112 (by decide) (fun c112 => ?_) (fun c112 => ?_)
                    · refine lv_iload hx hb dX11_all_120 (lv_at hl 4 rfl) ?_
                      refine lv_istore (lv' := [(4, .int l4_58), (3, .int x105), (0, .ref a), (1, .int p0), (2, .int l2_58), (5, .int l5_36), (6, .int l6_58)]) hx hb dX11_all_122 hl (by decide) rfl (fun ls hl => ?_)
                      refine xi_iinc (n := 1) (lv' := fun z9 => [(2, .int z9), (4, .int l4_58), (3, .int x105), (0, .ref a), (1, .int p0), (5, .int l5_36), (6, .int l6_58)]) (k := 4) hx hb (rfl : Int32.toInt l2_58 = l2_58.toInt) (by decide) dX11_all_124 hl rfl (by decide) (fun _ => rfl) (fun x124 ls t124 hl => ?_)
                      have e124 : x124.toInt = (l2_58.toInt + 1) := (z_X11_all_31 l2_58.toInt x124.toInt c96 c112)
                      have hl : lv_has ls 7 [(2, .int x124), (4, .int l4_58), (3, .int x105), (0, .ref a), (1, .int p0), (5, .int l5_36), (6, .int l6_58)] := hl
                      refine xi_iinc (n := 1) (lv' := fun z9 => [(6, .int z9), (2, .int x124), (4, .int l4_58), (3, .int x105), (0, .ref a), (1, .int p0), (5, .int l5_36)]) (k := 6) hx hb (rfl : Int32.toInt l6_58 = l6_58.toInt) (by decide) dX11_all_127 hl rfl (by decide) (fun _ => rfl) (fun x127 ls t127 hl => ?_)
                      have e127 : x127.toInt = (l6_58.toInt + 1) := (z_X11_all_32 l2_58.toInt l6_58.toInt x127.toInt c96 c112)
                      have hl : lv_has ls 7 [(6, .int x127), (2, .int x124), (4, .int l4_58), (3, .int x105), (0, .ref a), (1, .int p0), (5, .int l5_36)] := hl
                      refine lv_goto (tgt := 58) hx hb dX11_all_130 (by decide) ?_
                      exact ih58 x124 x105 l4_58 x127 _ _ _ (by rw [(e124 : Int32.toInt x124 = (l2_58.toInt + 1)), (hv105 : Int32.toInt x105 = (aI (G21.2.1 (F a 15)) (l5_36.toInt))), (e127 : Int32.toInt x127 = (l6_58.toInt + 1))] <;> exact (v_X11_all_130_12 (K := K) (F := F) a G2 G G21 l2_36 l3_36 l4_36 l5_36 l2_58 l3_58 l4_58 l6_58 x11 p0 N36 N58 x89 ha oq21a pa pi t11 c14 z24 I36_0 I36_1 hm36 c42 z45 z45a I58_0 I58_1 hm58 c71 t89 (xzi b89) c92 c96 c112)) (by rw [(e127 : Int32.toInt x127 = (l6_58.toInt + 1))] <;> exact (z_X11_all_17 l6_58.toInt (sF (aI (G.2.1 (F a 10)) (10 * (aI (G21.2.1 (F a 15)) (l5_36.toInt)) + 0))) (sL (aI (G.2.1 (F a 10)) (10 * (aI (G21.2.1 (F a 15)) (l5_36.toInt)) + 0))) I58_0 c71)) (by rw [(e124 : Int32.toInt x124 = (l2_58.toInt + 1)), (e127 : Int32.toInt x127 = (l6_58.toInt + 1))] <;> exact (z_X11_all_23 l2_58.toInt l5_36.toInt l6_58.toInt (sF (aI (G.2.1 (F a 10)) (10 * (aI (G21.2.1 (F a 15)) (l5_36.toInt)) + 0))) I58_1)) (by rw [(e127 : Int32.toInt x127 = (l6_58.toInt + 1))] <;> exact (z_X11_first_14 l6_58.toInt N58 hm58)) hT hS (lv_sub hl [4, 5, 1, 3, 2, 6, 0] rfl)
                    · refine lv_iload hx hb dX11_all_115 (lv_at hl 6 rfl) ?_
                      refine lv_goto (tgt := 122) hx hb dX11_all_117 (by decide) ?_
                      refine lv_istore (lv' := [(4, .int l6_58), (3, .int x105), (0, .ref a), (1, .int p0), (2, .int l2_58), (5, .int l5_36), (6, .int l6_58)]) hx hb dX11_all_122 hl (by decide) rfl (fun ls hl => ?_)
                      refine xi_iinc (n := 1) (lv' := fun z9 => [(2, .int z9), (4, .int l6_58), (3, .int x105), (0, .ref a), (1, .int p0), (5, .int l5_36), (6, .int l6_58)]) (k := 4) hx hb (rfl : Int32.toInt l2_58 = l2_58.toInt) (by decide) dX11_all_124 hl rfl (by decide) (fun _ => rfl) (fun x124 ls t124 hl => ?_)
                      have e124 : x124.toInt = (l2_58.toInt + 1) := (z_X11_all_36 l2_58.toInt x124.toInt c96 t124)
                      have hl : lv_has ls 7 [(2, .int x124), (4, .int l6_58), (3, .int x105), (0, .ref a), (1, .int p0), (5, .int l5_36), (6, .int l6_58)] := hl
                      refine xi_iinc (n := 1) (lv' := fun z9 => [(6, .int z9), (2, .int x124), (4, .int l6_58), (3, .int x105), (0, .ref a), (1, .int p0), (5, .int l5_36)]) (k := 6) hx hb (rfl : Int32.toInt l6_58 = l6_58.toInt) (by decide) dX11_all_127 hl rfl (by decide) (fun _ => rfl) (fun x127 ls t127 hl => ?_)
                      have e127 : x127.toInt = (l6_58.toInt + 1) := (z_X11_all_16 l6_58.toInt x127.toInt (aI (G.2.1 (F a 10)) (10 * (aI (G21.2.1 (F a 15)) (l5_36.toInt)) + 0)) (sF (aI (G.2.1 (F a 10)) (10 * (aI (G21.2.1 (F a 15)) (l5_36.toInt)) + 0))) (sL (aI (G.2.1 (F a 10)) (10 * (aI (G21.2.1 (F a 15)) (l5_36.toInt)) + 0))) z45a c71 t127 (xr l6_58))
                      have hl : lv_has ls 7 [(6, .int x127), (2, .int x124), (4, .int l6_58), (3, .int x105), (0, .ref a), (1, .int p0), (5, .int l5_36)] := hl
                      refine lv_goto (tgt := 58) hx hb dX11_all_130 (by decide) ?_
                      exact ih58 x124 x105 l6_58 x127 _ _ _ (by rw [(e124 : Int32.toInt x124 = (l2_58.toInt + 1)), (hv105 : Int32.toInt x105 = (aI (G21.2.1 (F a 15)) (l5_36.toInt))), (e127 : Int32.toInt x127 = (l6_58.toInt + 1))] <;> exact (v_X11_all_130_13 (K := K) (F := F) a G2 G G21 l2_36 l3_36 l4_36 l5_36 l2_58 l3_58 l4_58 l6_58 x11 p0 N36 N58 x89 ha oq21a pa pi t11 c14 z24 I36_0 I36_1 hm36 c42 z45 z45a I58_0 I58_1 hm58 c71 t89 (xzi b89) c92 c96)) (by rw [(e127 : Int32.toInt x127 = (l6_58.toInt + 1))] <;> exact (z_X11_all_17 l6_58.toInt (sF (aI (G.2.1 (F a 10)) (10 * (aI (G21.2.1 (F a 15)) (l5_36.toInt)) + 0))) (sL (aI (G.2.1 (F a 10)) (10 * (aI (G21.2.1 (F a 15)) (l5_36.toInt)) + 0))) I58_0 c71)) (by rw [(e124 : Int32.toInt x124 = (l2_58.toInt + 1)), (e127 : Int32.toInt x127 = (l6_58.toInt + 1))] <;> exact (z_X11_all_23 l2_58.toInt l5_36.toInt l6_58.toInt (sF (aI (G.2.1 (F a 10)) (10 * (aI (G21.2.1 (F a 15)) (l5_36.toInt)) + 0))) I58_1)) (by rw [(e127 : Int32.toInt x127 = (l6_58.toInt + 1))] <;> exact (z_X11_first_14 l6_58.toInt N58 hm58)) hT hS (lv_sub hl [4, 5, 1, 3, 2, 6, 0] rfl)
          exact L58 4294967297 l2_36 l3_36 l4_36 x53 _ _ _ (by rw [(t53 : Int32.toInt x53 = (sF (aI (G.2.1 (F a 10)) (10 * (aI (G21.2.1 (F a 15)) (l5_36.toInt)) + 0))))] <;> exact (v_X11_all_56_14 (F := F) a G G21 l2_36 l3_36 l4_36 l5_36 pa)) (by rw [(t53 : Int32.toInt x53 = (sF (aI (G.2.1 (F a 10)) (10 * (aI (G21.2.1 (F a 15)) (l5_36.toInt)) + 0))))] <;> exact (z_X11_all_41 (aI (G.2.1 (F a 10)) (10 * (aI (G21.2.1 (F a 15)) (l5_36.toInt)) + 0)) (sF (aI (G.2.1 (F a 10)) (10 * (aI (G21.2.1 (F a 15)) (l5_36.toInt)) + 0))) (sL (aI (G.2.1 (F a 10)) (10 * (aI (G21.2.1 (F a 15)) (l5_36.toInt)) + 0))) z45a)) (by rw [(t53 : Int32.toInt x53 = (sF (aI (G.2.1 (F a 10)) (10 * (aI (G21.2.1 (F a 15)) (l5_36.toInt)) + 0))))] <;> exact (z_X11_all_42 l2_36.toInt l5_36.toInt (sF (aI (G.2.1 (F a 10)) (10 * (aI (G21.2.1 (F a 15)) (l5_36.toInt)) + 0))) I36_1)) (by rw [(t53 : Int32.toInt x53 = (sF (aI (G.2.1 (F a 10)) (10 * (aI (G21.2.1 (F a 15)) (l5_36.toInt)) + 0))))] <;> exact (z_X11_all_43 (aI (G.2.1 (F a 10)) (10 * (aI (G21.2.1 (F a 15)) (l5_36.toInt)) + 0)) (sF (aI (G.2.1 (F a 10)) (10 * (aI (G21.2.1 (F a 15)) (l5_36.toInt)) + 0))) (sL (aI (G.2.1 (F a 10)) (10 * (aI (G21.2.1 (F a 15)) (l5_36.toInt)) + 0))) z45a)) hT hS (lv_sub hl [1, 2, 3, 4, 5, 6, 0] rfl)
    exact L36 4294967297 0 (-2147483648) (-2147483648) 0 _ _ _ (by rw [((by decide) : Int32.toInt (-2147483648) = (-2147483648 : Int))] <;> exact (v_X11_all_34_15 (F := F) a G)) (z_X11_all_44 ((G21.1 a 16).toInt) z24) (by decide) (by decide) hT hS (lv_sub hl [4, 5, 3, 2, 1, 0] rfl)
  · refine lv_ldc (v := (-2147483648)) hx hb S.2.2.2.1 (S.2.2.2.2 _ (List.mem_cons_of_mem _ kc_X11_57)) dX11_all_17 ?_
    exact x_ri hx hb hr hlk hQ (Nat.le_of_ble_eq_true rfl) (Nat.le_of_ble_eq_true rfl) hS dX11_all_19 G2 ⟨_, rfl, (by rw [hG2]; exact XFr.dput XFr.rf (List.mem_of_getElem? (i := 0) rfl)), (by rw [((by decide) : Int32.toInt (-2147483648) = (-2147483648 : Int))] <;> exact (v_X11_all_19_16 (K := K) (F := F) a G x11 p0 ha t11 c14))⟩ hT
/-! ===== what an act would tell ===== -/
def AnsR (op r : Int) (l : List Qt) : Prop := (r = -5 ∧ ∃ x, x ∈ l ∧ x.2.2.2.2.2 ≠ 0 ∧ (op = 0 ∨ x.2.2.2.2.1 = 0)) ∨ (r = ((l.length : Nat) : Int) ∧ ∀ x, x ∈ l → x.2.2.2.2.2 ≠ 0 → op ≠ 0 ∧ x.2.2.2.2.1 ≠ 0)
theorem AnsR.act {op r : Int} {l : List Qt} (h : AnsR op r l) (n0 p : Int → Int) : ∃ (n1 : Int → Int) (w1 : List Qt), ActR op r l n0 n1 p [] w1 [] := by
  rcases h with ⟨e, x, hx, f, g⟩ | ⟨e, h⟩
  · refine ⟨n0, [], Or.inl ⟨?_, e, rfl, rfl⟩⟩
    by_cases l0 : x.2.2.2.2.1 = 0
    · exact Or.inl ⟨x, hx, l0, f⟩
    · exact Or.inr ⟨g.resolve_right l0, x, hx, l0, f⟩
  · refine ⟨p, [], Or.inr ⟨fun x hx l0 => ?_, fun o x hx l0 => ?_, e, rfl, fun _ => rfl, fun _ => rfl⟩⟩
    · exact Classical.byContradiction (fun q => (h x hx q).2 l0)
    · exact Classical.byContradiction (fun q => (h x hx q).1 o)
def AnsM (op r : Int) (f : Nat → Int32) (r1 r2 : Int → Int) : Prop := ((ffP f r2 (fuO f r1 r2 0) ≠ -1 ∨ (op = 0 ∧ ffP f r2 (fuO f r1 r2 1) ≠ -1)) ∧ r = -5) ∨ (ffP f r2 (fuO f r1 r2 0) = -1 ∧ (op = 0 → ffP f r2 (fuO f r1 r2 1) = -1) ∧ r = (((fuO f r1 r2 2).length : Nat) : Int))
theorem AnsM.st {op r : Int} {f : Nat → Int32} {r1 r2 : Int → Int} (h : AnsM op r f r1 r2) : ∃ r3 : Int → Int, StR op r f r1 r2 r3 := by
  rcases h with ⟨a, e⟩ | ⟨a, b, e⟩
  · exact ⟨r1, Or.inl ⟨a, e, rfl⟩⟩
  · exact ⟨r2, Or.inr ⟨a, b, e, rfl⟩⟩
section
/-! ===== who leans on whom: what was reached ===== -/
def inR (u k : Int) : Prop := (0 ≤ u ∧ u < 3) ∧ (0 ≤ k ∧ k < 30)
/-- the row (u, k) refers to the row (t, j) by one of the first n rules: the class's list, the reference's numbers -/
def lnC (G : XG) (b : Nat → Option Nat) (r : Int → Int) (n u k t j : Int) : Prop := ∃ i q : Nat, (i : Int) < n ∧ b i = some q ∧ (G.1 q 0).toInt = 1 ∧ (G.1 q 4).toInt = t ∧ (G.1 q 2).toInt = u ∧ cel r u k (G.1 q 3).toInt = j
def lnM (f : Nat → Int32) (r : Int → Int) (n u k t j : Int) : Prop := ∃ q : Int, (0 ≤ q ∧ q < n) ∧ aI f (10 * q + 0) = 1 ∧ aI f (10 * q + 3) = t ∧ aI f (10 * q + 1) = u ∧ cel r u k (aI f (10 * q + 2)) = j
/-- all that one comes to from (t, j); the same, one step at least -/
def RCH (L : Int → Int → Int → Int → Prop) (t j u k : Int) : Prop := ∀ S : Int → Int → Prop, S t j → (∀ u k t2 j2 : Int, inR u k → S t2 j2 → L u k t2 j2 → S u k) → S u k
def RC1 (L : Int → Int → Int → Int → Prop) (t j u k : Int) : Prop := ∀ S : Int → Int → Prop, (∀ u k : Int, inR u k → L u k t j → S u k) → (∀ u k t2 j2 : Int, inR u k → S t2 j2 → L u k t2 j2 → S u k) → S u k
theorem RCH.self (L : Int → Int → Int → Int → Prop) (t j : Int) : RCH L t j t j := fun _ h _ => h
theorem RCH.go {L : Int → Int → Int → Int → Prop} {t j u k t2 j2 : Int} (h : RCH L t j t2 j2) (hi : inR u k) (hl : L u k t2 j2) : RCH L t j u k := fun S h0 h1 => h1 u k t2 j2 hi (h S h0 h1) hl
theorem RC1.one {L : Int → Int → Int → Int → Prop} {t j u k : Int} (hi : inR u k) (hl : L u k t j) : RC1 L t j u k := fun _ h0 _ => h0 u k hi hl
theorem RC1.go {L : Int → Int → Int → Int → Prop} {t j u k t2 j2 : Int} (h : RC1 L t j t2 j2) (hi : inR u k) (hl : L u k t2 j2) : RC1 L t j u k := fun S h0 h1 => h1 u k t2 j2 hi (h S h0 h1) hl
theorem RC1.rch {L : Int → Int → Int → Int → Prop} {t j u k : Int} (h : RC1 L t j u k) : RCH L t j u k := fun S h0 h1 => h S (fun u k hi hl => h1 u k t j hi h0 hl) h1
theorem RCH.rc1 {L : Int → Int → Int → Int → Prop} {t j u k : Int} (h : RCH L t j u k) : (u = t ∧ k = j) ∨ RC1 L t j u k := h (fun u k => (u = t ∧ k = j) ∨ RC1 L t j u k) (Or.inl ⟨rfl, rfl⟩) (fun u k t2 j2 hi hs hl => by
  rcases hs with ⟨e1, e2⟩ | hs
  · subst e1 e2; exact Or.inr (RC1.one hi hl)
  · exact Or.inr (hs.go hi hl))
theorem RCH.cg {L M : Int → Int → Int → Int → Prop} {t j u k : Int} (h : RCH L t j u k) (e : ∀ u k t2 j2 : Int, L u k t2 j2 → M u k t2 j2) : RCH M t j u k := fun S h0 h1 => h S h0 (fun u k t2 j2 hi hs hl => h1 u k t2 j2 hi hs (e u k t2 j2 hl))
/-- the bits b, the list (x, y) of n rows: the same rows, each once -/
def LIv (b x y : Int → Int) (n : Int) : Prop := n = toB b 3 ∧ (∀ z : Int, 0 ≤ z → z < n → inR (x z) (y z) ∧ bI (b (x z)) (y z) = 1) ∧ ∀ u k : Int, inR u k → bI (b u) k = 1 → ∃ z : Int, 0 ≤ z ∧ z < n ∧ x z = u ∧ y z = k
def LGo (b x y : Int → Int) (n : Int) (b2 x2 y2 : Int → Int) (n2 : Int) (P : Int → Int → Prop) : Prop := LIv b2 x2 y2 n2 ∧ n ≤ n2 ∧ (∀ z : Int, 0 ≤ z → z < n → x2 z = x z ∧ y2 z = y z) ∧ ∀ u k : Int, inR u k → (bI (b2 u) k = 1 ↔ bI (b u) k = 1 ∨ P u k)
theorem toB_3 (b : Int → Int) : toB b 3 = szB b 0 + szB b 1 + szB b 2 := by
  show 0 + szB b ((0 : Nat) : Int) + szB b ((1 : Nat) : Int) + szB b ((2 : Nat) : Int) = _
  show 0 + szB b 0 + szB b 1 + szB b 2 = _
  omega
theorem bsm_lt {f : Int → Int} {i : Nat} : ∀ n : Nat, (∀ k : Nat, k < n → f k = 0 ∨ f k = 1) → i < n → f i = 0 → bsm f n ≤ (n : Int) - 1
  | 0, _, hi, _ => absurd hi (Nat.not_lt_zero i)
  | n + 1, h, hi, h0 => by
    have hn := h n (by omega)
    show bsm f n + f n ≤ ((n + 1 : Nat) : Int) - 1
    by_cases e : i = n
    · subst e
      have := (bsm_b i (fun k hk => h k (by omega))).2
      omega
    · have := bsm_lt n (fun k hk => h k (by omega)) (by omega) h0
      omega
theorem bsm_set {f g : Int → Int} {i : Nat} : ∀ n : Nat, i < n → f i = 0 → g i = 1 → (∀ k : Nat, k < n → k ≠ i → g k = f k) → bsm g n = bsm f n + 1
  | 0, hi, _, _, _ => absurd hi (Nat.not_lt_zero i)
  | n + 1, hi, h0, h1, h => by
    show bsm g n + g n = bsm f n + f n + 1
    by_cases e : i = n
    · subst e
      have := bsm_cg (f := g) (g := f) i (fun k hk => h k (by omega) (by omega))
      omega
    · have h2 := bsm_set n (by omega) h0 h1 (fun k hk hne => h k (by omega) hne)
      have h3 := h n (by omega) (fun q => e q.symm)
      omega
theorem LIv.b {b x y : Int → Int} {n : Int} (h : LIv b x y n) : 0 ≤ n ∧ n ≤ 90 := by
  have e := h.1
  rw [toB_3] at e
  have h0 := szB_b b 0
  have h1 := szB_b b 1
  have h2 := szB_b b 2
  omega
theorem szB_lt {b : Int → Int} {u k : Int} (hk : 0 ≤ k ∧ k < 30) (h0 : bI (b u) k = 0) : szB b u ≤ 29 := by
  have e : ((k.toNat : Nat) : Int) = k := by omega
  have h := bsm_lt (f := bI (b u)) (i := k.toNat) 30 (fun k _ => bI01 (b u) k) (by omega) (by rw [e]; exact h0)
  exact h
theorem LIv.lt {b x y : Int → Int} {n u k : Int} (h : LIv b x y n) (hi : inR u k) (h0 : bI (b u) k = 0) : n ≤ 89 := by
  have e := h.1
  rw [toB_3] at e
  have q := szB_lt hi.2 h0
  have h0 := szB_b b 0
  have h1 := szB_b b 1
  have h2 := szB_b b 2
  have hu : u = 0 ∨ u = 1 ∨ u = 2 := by have := hi.1; omega
  rcases hu with g | g | g <;> rw [g] at q <;> omega
theorem LIv_0 {b x y : Int → Int} {n : Int} (hb : ∀ t : Int, 0 ≤ t → t < 3 → b t = 0) (hn : n = 0) : LIv b x y n := by
  have z : ∀ t : Int, 0 ≤ t → t < 3 → szB b t = 0 := fun t h0 h1 => by
    unfold szB
    rw [hb t h0 h1]
    have e := bsm_cg (f := bI 0) (g := fun _ => 0) 30 (fun k _ => bI_0 _)
    rw [e]
    rfl
  refine ⟨?_, fun z0 h0 h1 => by omega, fun u k hi h1 => ?_⟩
  · rw [toB_3, z 0 (by decide) (by decide), z 1 (by decide) (by decide), z 2 (by decide) (by decide), hn]
    rfl
  · rw [hb u hi.1.1 hi.1.2, bI_0] at h1
    exact absurd h1 (by decide)
theorem LGo_same {b x y : Int → Int} {n : Int} {P : Int → Int → Prop} (h : LIv b x y n) (hp : ∀ u k : Int, inR u k → P u k → bI (b u) k = 1) : LGo b x y n b x y n P := ⟨h, Int.le_refl n, fun _ _ _ => ⟨rfl, rfl⟩, fun u k hi => ⟨Or.inl, fun q => q.elim id (hp u k hi)⟩⟩
theorem LGo.tr {b x y b2 x2 y2 b3 x3 y3 : Int → Int} {n n2 n3 : Int} {P Q R : Int → Int → Prop} (h : LGo b x y n b2 x2 y2 n2 P) (g : LGo b2 x2 y2 n2 b3 x3 y3 n3 Q) (hR : ∀ u k : Int, inR u k → (R u k ↔ P u k ∨ Q u k)) : LGo b x y n b3 x3 y3 n3 R := by
  obtain ⟨h1, h2, h3, h4⟩ := h
  obtain ⟨g1, g2, g3, g4⟩ := g
  refine ⟨g1, Int.le_trans h2 g2, fun z z0 z1 => ?_, fun u k hi => ?_⟩
  · have a := h3 z z0 z1
    have c := g3 z z0 (by omega)
    exact ⟨c.1.trans a.1, c.2.trans a.2⟩
  · rw [g4 u k hi, h4 u k hi, hR u k hi, or_assoc]
theorem LGo.cg {b x y b2 x2 y2 : Int → Int} {n n2 : Int} {P Q : Int → Int → Prop} (h : LGo b x y n b2 x2 y2 n2 P) (e : ∀ u k : Int, inR u k → (Q u k ↔ P u k)) : LGo b x y n b2 x2 y2 n2 Q := ⟨h.1, h.2.1, h.2.2.1, fun u k hi => by rw [h.2.2.2 u k hi, e u k hi]⟩
theorem LGo_add {b x y b2 x2 y2 : Int → Int} {n n2 u k : Int} (h : LIv b x y n) (hi : inR u k) (h0 : bI (b u) k = 0) (hn : n2 = n + 1) (hb : ∀ t : Int, 0 ≤ t → t ≠ u → b2 t = b t) (hb2 : ∀ j : Int, 0 ≤ j → j < 32 → bI (b2 u) j = if j = k then 1 else bI (b u) j) (hx : ∀ z : Int, 0 ≤ z → x2 z = if z = n then u else x z) (hy : ∀ z : Int, 0 ≤ z → y2 z = if z = n then k else y z) : LGo b x y n b2 x2 y2 n2 (fun u2 k2 => u2 = u ∧ k2 = k) := by
  have hnb := h.b
  have bit : ∀ u2 k2 : Int, inR u2 k2 → (bI (b2 u2) k2 = 1 ↔ bI (b u2) k2 = 1 ∨ (u2 = u ∧ k2 = k)) := by
    intro u2 k2 hi2
    by_cases e : u2 = u
    · rw [e, hb2 k2 hi2.2.1 (by have := hi2.2.2; omega)]
      by_cases e2 : k2 = k
      · rw [if_pos e2]; exact ⟨fun _ => Or.inr ⟨rfl, e2⟩, fun _ => rfl⟩
      · rw [if_neg e2]; exact ⟨Or.inl, fun q => q.elim id (fun w => absurd w.2 e2)⟩
    · rw [hb u2 hi2.1.1 e]; exact ⟨Or.inl, fun q => q.elim id (fun w => absurd w.1 e)⟩
  have szs : szB b2 u = szB b u + 1 := by
    have ek : ((k.toNat : Nat) : Int) = k := by have := hi.2; omega
    refine bsm_set (f := bI (b u)) (g := bI (b2 u)) (i := k.toNat) 30 (by have := hi.2; omega) (by rw [ek]; exact h0) (by rw [ek, hb2 k hi.2.1 (by have := hi.2; omega), if_pos rfl]) (fun j hj hne => ?_)
    rw [hb2 (j : Int) (by omega) (by omega), if_neg (by omega)]
  have szo : ∀ t : Int, 0 ≤ t → t ≠ u → szB b2 t = szB b t := fun t t0 hne => by unfold szB; rw [hb t t0 hne]
  have eT : toB b2 3 = toB b 3 + 1 := by
    rw [toB_3, toB_3]
    have hu : u = 0 ∨ u = 1 ∨ u = 2 := by have := hi.1; omega
    rcases hu with g | g | g
    · rw [g] at szs; have q1 := szo 1 (by decide) (by omega); have q2 := szo 2 (by decide) (by omega); omega
    · rw [g] at szs; have q1 := szo 0 (by decide) (by omega); have q2 := szo 2 (by decide) (by omega); omega
    · rw [g] at szs; have q1 := szo 0 (by decide) (by omega); have q2 := szo 1 (by decide) (by omega); omega
  have old : ∀ z : Int, 0 ≤ z → z < n → x2 z = x z ∧ y2 z = y z := fun z z0 z1 => ⟨by rw [hx z z0, if_neg (by omega)], by rw [hy z z0, if_neg (by omega)]⟩
  have new : x2 n = u ∧ y2 n = k := ⟨by rw [hx n hnb.1, if_pos rfl], by rw [hy n hnb.1, if_pos rfl]⟩
  refine ⟨⟨by rw [hn, eT, ← h.1], fun z z0 z1 => ?_, fun u2 k2 hi2 q => ?_⟩, by omega, old, bit⟩
  · by_cases e : z = n
    · rw [e, new.1, new.2]
      exact ⟨hi, (bit u k hi).mpr (Or.inr ⟨rfl, rfl⟩)⟩
    · obtain ⟨e1, e2⟩ := old z z0 (by omega)
      obtain ⟨a, c⟩ := h.2.1 z z0 (by omega)
      rw [e1, e2]
      exact ⟨a, (bit _ _ a).mpr (Or.inl c)⟩
  · rcases (bit u2 k2 hi2).mp q with w | ⟨w1, w2⟩
    · obtain ⟨z, z0, z1, e1, e2⟩ := h.2.2 u2 k2 hi2 w
      obtain ⟨o1, o2⟩ := old z z0 z1
      exact ⟨z, z0, by omega, o1.trans e1, o2.trans e2⟩
    · exact ⟨n, hnb.1, by omega, new.1.trans w1.symm, new.2.trans w2.symm⟩
/-- a rule more -/
theorem lnC_s {G : XG} {b : Nat → Option Nat} {r : Int → Int} {n u k t j : Int} (hn : 0 ≤ n) : lnC G b r (n + 1) u k t j ↔ lnC G b r n u k t j ∨ ∃ q : Nat, b n.toNat = some q ∧ (G.1 q 0).toInt = 1 ∧ (G.1 q 4).toInt = t ∧ (G.1 q 2).toInt = u ∧ cel r u k (G.1 q 3).toInt = j := by
  constructor
  · rintro ⟨i, q, hi, h⟩
    by_cases e : (i : Int) < n
    · exact Or.inl ⟨i, q, e, h⟩
    · have e2 : n.toNat = i := by omega
      exact Or.inr ⟨q, by rw [e2]; exact h.1, h.2⟩
  · rintro (⟨i, q, hi, h⟩ | ⟨q, h⟩)
    · exact ⟨i, q, by omega, h⟩
    · exact ⟨n.toNat, q, by omega, h⟩
theorem lnC_0 {G : XG} {b : Nat → Option Nat} {r : Int → Int} {n u k t j : Int} (hn : n ≤ 0) : ¬ lnC G b r n u k t j := by
  rintro ⟨i, q, hi, -⟩
  omega
theorem lnM_s {f : Nat → Int32} {r : Int → Int} {n u k t j : Int} (hn : 0 ≤ n) : lnM f r (n + 1) u k t j ↔ lnM f r n u k t j ∨ (aI f (10 * n + 0) = 1 ∧ aI f (10 * n + 3) = t ∧ aI f (10 * n + 1) = u ∧ cel r u k (aI f (10 * n + 2)) = j) := by
  constructor
  · rintro ⟨q, hq, h⟩
    by_cases e : q < n
    · exact Or.inl ⟨q, ⟨hq.1, e⟩, h⟩
    · have e2 : q = n := by omega
      subst e2
      exact Or.inr h
  · rintro (⟨q, hq, h⟩ | h)
    · exact ⟨q, ⟨hq.1, by omega⟩, h⟩
    · exact ⟨n, ⟨hn, by omega⟩, h⟩
theorem lnM_0 {f : Nat → Int32} {r : Int → Int} {n u k t j : Int} (hn : n ≤ 0) : ¬ lnM f r n u k t j := by
  rintro ⟨q, hq, -⟩
  omega
/-- the search is through: all that one comes to is reached -/
theorem reach_all {L : Int → Int → Int → Int → Prop} {b x y : Int → Int} {n i t j : Int} (h : LIv b x y n) (hi : n ≤ i) (h0 : bI (b t) j = 1) (h1 : ∀ u k : Int, inR u k → bI (b u) k = 1 → RCH L t j u k) (h2 : ∀ z : Int, 0 ≤ z → z < i → ∀ u k : Int, inR u k → L u k (x z) (y z) → bI (b u) k = 1) (hj : inR t j) : ∀ u k : Int, inR u k → (bI (b u) k = 1 ↔ RCH L t j u k) := fun u k hi2 => ⟨h1 u k hi2, fun q => by
  refine (q (fun u k => inR u k ∧ bI (b u) k = 1) ⟨hj, h0⟩ (fun u k t2 j2 a s l => ⟨a, ?_⟩)).2
  obtain ⟨z, z0, z1, e1, e2⟩ := h.2.2 t2 j2 s.1 s.2
  refine h2 z z0 (by omega) u k a ?_
  rw [e1, e2]
  exact l⟩
/-- the set is a sum of bits -/
theorem toB_sm {b g : Int → Int} (h : ∀ u k : Int, inR u k → bI (b u) k = g (30 * u + k)) : toB b 3 = bsm g 90 := by
  have key : ∀ t : Nat, t < 3 → bsm (fun k => g (((30 * t : Nat) : Int) + k)) 30 = szB b t := fun t ht => bsm_cg 30 (fun k hk => by
    show g (((30 * t : Nat) : Int) + (k : Int)) = bI (b t) k
    rw [h (t : Int) (k : Int) ⟨by omega, by omega⟩, show ((30 * t : Nat) : Int) = 30 * (t : Int) by omega])
  have e1 : bsm g 90 = bsm g (30 + (30 + 30)) := rfl
  have k0 : bsm g 30 = szB b ((0 : Nat) : Int) := by
    rw [← key 0 (by decide)]
    exact bsm_cg 30 (fun k _ => by
      show g (k : Int) = g (((30 * 0 : Nat) : Int) + (k : Int))
      rw [show (((30 * 0 : Nat) : Int) + (k : Int)) = (k : Int) by omega])
  have k1 : bsm (fun k => g (((30 : Nat) : Int) + k)) 30 = szB b ((1 : Nat) : Int) := key 1 (by decide)
  have k2 : bsm (fun k => (fun k => g (((30 : Nat) : Int) + k)) (((30 : Nat) : Int) + k)) 30 = szB b ((2 : Nat) : Int) := by
    rw [← key 2 (by decide)]
    exact bsm_cg 30 (fun k _ => by
      show g (((30 : Nat) : Int) + (((30 : Nat) : Int) + (k : Int))) = g (((30 * 2 : Nat) : Int) + (k : Int))
      rw [show (((30 : Nat) : Int) + (((30 : Nat) : Int) + (k : Int))) = (((30 * 2 : Nat) : Int) + (k : Int)) by omega])
  rw [e1, bsm_add, bsm_add, k0, k1, k2, toB_3]
  show _ = szB b 0 + (szB b 1 + szB b 2)
  omega
/-- sums by an integer's bound -/
def bsI (g : Int → Int) (z : Int) : Int := bsm g z.toNat
theorem bsI_0 (g : Int → Int) : bsI g 0 = 0 := rfl
theorem bsI_s (g : Int → Int) {z : Int} (h : 0 ≤ z) : bsI g (z + 1) = bsI g z + g z := by
  have e : (z + 1).toNat = z.toNat + 1 := by omega
  have e2 : ((z.toNat : Nat) : Int) = z := by omega
  unfold bsI
  rw [e]
  show bsm g z.toNat + g ((z.toNat : Nat) : Int) = _
  rw [e2]
noncomputable def lnI (f : Nat → Int32) (r : Int → Int) (t j z : Int) : Int := by
  classical
  exact if lnM f r 12 (z / 30) (z % 30) t j then 1 else 0
theorem lnI_y {f : Nat → Int32} {r : Int → Int} {t j z : Int} (h : lnM f r 12 (z / 30) (z % 30) t j) : lnI f r t j z = 1 := by
  unfold lnI
  exact if_pos h
theorem lnI_n {f : Nat → Int32} {r : Int → Int} {t j z : Int} (h : ¬ lnM f r 12 (z / 30) (z % 30) t j) : lnI f r t j z = 0 := by
  unfold lnI
  exact if_neg h
def lnK (g : Int → Int) (s z : Int) : Int := if g z = 1 ∧ z ≠ s then 1 else 0
theorem lnK_st (g : Int → Int) (s z : Int) : (g z = 1 ∧ z ≠ s → lnK g s z = 1) ∧ (¬ (g z = 1 ∧ z ≠ s) → lnK g s z = 0) := ⟨fun h => if_pos h, fun h => if_neg h⟩
theorem lnC_cg {G u : XG} {b : Nat → Option Nat} {r : Int → Int} {n x k t j : Int} (hn : n ≤ 12) (h : ∀ i q : Nat, i < 12 → b i = some q → u.1 q = G.1 q) : lnC u b r n x k t j ↔ lnC G b r n x k t j := by
  constructor
  · rintro ⟨i, q, hi, hb, hh⟩
    rw [h i q (by omega) hb] at hh
    exact ⟨i, q, hi, hb, hh⟩
  · rintro ⟨i, q, hi, hb, hh⟩
    refine ⟨i, q, hi, hb, ?_⟩
    rw [h i q (by omega) hb]
    exact hh
/-! the reference's own reading of a row -/
def lnR (f g : Nat → Int32) (n u k t j : Int) : Prop := ∃ q : Int, (0 ≤ q ∧ q < n) ∧ aI f (10 * q + 0) = 1 ∧ aI f (10 * q + 3) = t ∧ aI f (10 * q + 1) = u ∧ aI g (4 * (30 * u + k) + 1 + aI f (10 * q + 2)) = j
theorem lnR_s {f g : Nat → Int32} {n u k t j : Int} (hn : 0 ≤ n) : lnR f g (n + 1) u k t j ↔ lnR f g n u k t j ∨ (aI f (10 * n + 0) = 1 ∧ aI f (10 * n + 3) = t ∧ aI f (10 * n + 1) = u ∧ aI g (4 * (30 * u + k) + 1 + aI f (10 * n + 2)) = j) := by
  constructor
  · rintro ⟨q, hq, h⟩
    by_cases e : q < n
    · exact Or.inl ⟨q, ⟨hq.1, e⟩, h⟩
    · have e2 : q = n := by omega
      subst e2
      exact Or.inr h
  · rintro (⟨q, hq, h⟩ | h)
    · exact ⟨q, ⟨hq.1, by omega⟩, h⟩
    · exact ⟨n, ⟨hn, by omega⟩, h⟩
theorem lnR_0 {f g : Nat → Int32} {n u k t j : Int} (hn : n ≤ 0) : ¬ lnR f g n u k t j := by
  rintro ⟨q, hq, -⟩
  omega
theorem lnM_R {f g : Nat → Int32} {n u k t j : Int} (hR : RV f) (hM : RM g 0) (h0 : inR u k) (hn : n ≤ 12) (hj : 0 ≤ j) (h : lnM f (mw g 0) n u k t j) : lnR f g n u k t j := by
  obtain ⟨q, hq, h1, h2, h3, h4⟩ := h
  obtain ⟨-, -, c1, -⟩ := hR q hq.1 (by omega)
  refine ⟨q, hq, h1, h2, h3, ?_⟩
  have e9 : 4 * (30 * u + k) + 1 + aI f (10 * q + 2) = 0 + 4 * (30 * u + k) + 1 + aI f (10 * q + 2) := by omega
  rw [e9]
  rcases hM.okc (t := u) (k := k) (c := aI f (10 * q + 2)) ⟨h0.1.1, h0.1.2, h0.2.1, h0.2.2, c1.1, by omega⟩ with ⟨-, e⟩ | ⟨-, e, -⟩
  · rw [h4] at e; omega
  · rw [← e]; exact h4
theorem lnR_M {f g : Nat → Int32} {n u k t j : Int} (hR : RV f) (hM : RM g 0) (h0 : inR u k) (hn : n ≤ 12) (hp : cel (mw g 0) u k 0 ≠ -2000) (h : lnR f g n u k t j) : lnM f (mw g 0) n u k t j := by
  obtain ⟨q, hq, h1, h2, h3, h4⟩ := h
  obtain ⟨-, -, c1, -⟩ := hR q hq.1 (by omega)
  refine ⟨q, hq, h1, h2, h3, ?_⟩
  have e9 : 4 * (30 * u + k) + 1 + aI f (10 * q + 2) = 0 + 4 * (30 * u + k) + 1 + aI f (10 * q + 2) := by omega
  rw [e9] at h4
  rcases hM.okc (t := u) (k := k) (c := aI f (10 * q + 2)) ⟨h0.1.1, h0.1.2, h0.2.1, h0.2.2, c1.1, by omega⟩ with ⟨-, e⟩ | ⟨-, e, -⟩
  · exact absurd ((hM.absent u k (aI f (10 * q + 2)) ⟨c1.1, by omega⟩).mp e) hp
  · rw [e]; exact h4
theorem lnM_no {f g : Nat → Int32} {n u k t j : Int} (hM : RM g 0) (hp : cel (mw g 0) u k 0 = -2000) (hj : 0 ≤ j) : ¬ lnM f (mw g 0) n u k t j := by
  rintro ⟨q, -, -, -, -, h4⟩
  by_cases c1 : 0 ≤ aI f (10 * q + 2) ∧ aI f (10 * q + 2) < 3
  · have e := (hM.absent u k (aI f (10 * q + 2)) c1).mpr hp
    rw [h4] at e; omega
  · have e : cel (mw g 0) u k (aI f (10 * q + 2)) = -2000 := cel_out (fun h => c1 ⟨h.2.2.2.2.1, h.2.2.2.2.2⟩)
    rw [h4] at e; omega
/-! the reference's marks: those that lean straight, those that lean by others, till none comes -/
def LQ (f : Nat → Int32) (r : Int → Int) (t j : Int) (g : Int → Int) : Prop := (∀ z : Int, 0 ≤ z → z < 90 → g z = 0 ∨ g z = 1) ∧ (∀ z : Int, 0 ≤ z → z < 90 → lnM f r 12 (z / 30) (z % 30) t j → g z = 1) ∧ ∀ z : Int, 0 ≤ z → z < 90 → g z = 1 → RC1 (lnM f r 12) t j (z / 30) (z % 30)
def LZ (f : Nat → Int32) (r g : Int → Int) (i o : Int) : Prop := (∀ z y : Int, 0 ≤ z → z < i → 0 ≤ y → y < 90 → g z = 0 → g y = 1 → ¬ lnM f r 12 (z / 30) (z % 30) (y / 30) (y % 30)) ∧ ∀ y : Int, 0 ≤ y → y < o → g i = 0 → g y = 1 → ¬ lnM f r 12 (i / 30) (i % 30) (y / 30) (y % 30)
section LEANS
variable {f : Nat → Int32} {r g g2 : Int → Int} {t j i o : Int}
theorem inR_z {z : Int} (h0 : 0 ≤ z) (h1 : z < 90) : inR (z / 30) (z % 30) := ⟨by omega, by omega⟩
theorem LQ_0 {n : Int} (h : ∀ z : Int, 0 ≤ z → z < n → (g z = 1 ∧ lnM f r 12 (z / 30) (z % 30) t j) ∨ (g z = 0 ∧ ¬ lnM f r 12 (z / 30) (z % 30) t j)) (hn : 90 ≤ n) : LQ f r t j g := by
  refine ⟨fun z z0 z1 => ?_, fun z z0 z1 hl => ?_, fun z z0 z1 hg => ?_⟩
  · rcases h z z0 (by omega) with ⟨a, -⟩ | ⟨a, -⟩
    · exact Or.inr a
    · exact Or.inl a
  · rcases h z z0 (by omega) with ⟨a, -⟩ | ⟨-, a⟩
    · exact a
    · exact absurd hl a
  · rcases h z z0 (by omega) with ⟨-, a⟩ | ⟨a, -⟩
    · exact RC1.one (inR_z z0 z1) a
    · rw [hg] at a; exact absurd a (by decide)
theorem LZ_0 : LZ f r g 0 0 := ⟨fun z y h0 h1 => absurd h0 (by omega), fun y h0 h1 => absurd h0 (by omega)⟩
theorem LZ_new (h : ∀ z y : Int, 0 ≤ z → z < i → 0 ≤ y → y < 90 → g z = 0 → g y = 1 → ¬ lnM f r 12 (z / 30) (z % 30) (y / 30) (y % 30)) : LZ f r g i 0 := ⟨h, fun y h0 h1 => absurd h0 (by omega)⟩
theorem LZ_row (h : LZ f r g i o) (ho : 90 ≤ o) : LZ f r g (i + 1) 0 := ⟨fun z y z0 z1 y0 y1 a c => by
  by_cases e : z = i
  · subst e; exact h.2 y y0 (by omega) a c
  · exact h.1 z y z0 (by omega) y0 y1 a c, fun y h0 h1 => absurd h0 (by omega)⟩
theorem LZ_one (h : ∀ z y : Int, 0 ≤ z → z < i → 0 ≤ y → y < 90 → g z = 0 → g y = 1 → ¬ lnM f r 12 (z / 30) (z % 30) (y / 30) (y % 30)) (hi : g i ≠ 0) : LZ f r g (i + 1) 0 := ⟨fun z y z0 z1 y0 y1 a c => by
  by_cases e : z = i
  · subst e; exact absurd a hi
  · exact h z y z0 (by omega) y0 y1 a c, fun y h0 h1 => absurd h0 (by omega)⟩
theorem LZ_skip (h : LZ f r g i o) (ho : g o ≠ 1 ∨ ¬ lnM f r 12 (i / 30) (i % 30) (o / 30) (o % 30)) : LZ f r g i (o + 1) := ⟨h.1, fun y y0 y1 a c => by
  by_cases e : y = o
  · subst e
    rcases ho with ho | ho
    · exact absurd c ho
    · exact ho
  · exact h.2 y y0 (by omega) a c⟩
theorem LQ_set (h : LQ f r t j g) (hi : 0 ≤ i ∧ i < 90) (ho : 0 ≤ o ∧ o < 90) (hl : lnM f r 12 (i / 30) (i % 30) (o / 30) (o % 30)) (hg : g o = 1) (hs : ∀ z : Int, 0 ≤ z → g2 z = if z = i then 1 else g z) : LQ f r t j g2 := by
  obtain ⟨h1, h2, h3⟩ := h
  refine ⟨fun z z0 z1 => ?_, fun z z0 z1 q => ?_, fun z z0 z1 q => ?_⟩
  · rw [hs z z0]
    by_cases e : z = i
    · rw [if_pos e]; exact Or.inr rfl
    · rw [if_neg e]; exact h1 z z0 z1
  · rw [hs z z0]
    by_cases e : z = i
    · rw [if_pos e]
    · rw [if_neg e]; exact h2 z z0 z1 q
  · rw [hs z z0] at q
    by_cases e : z = i
    · subst e; exact (h3 o ho.1 ho.2 hg).go (inR_z z0 z1) hl
    · rw [if_neg e] at q; exact h3 z z0 z1 q
theorem LQ_end (h : LQ f r t j g) (hz : LZ f r g 90 0) : ∀ z : Int, 0 ≤ z → z < 90 → (g z = 1 ↔ RC1 (lnM f r 12) t j (z / 30) (z % 30)) := by
  obtain ⟨h1, h2, h3⟩ := h
  intro z z0 z1
  refine ⟨h3 z z0 z1, fun q => ?_⟩
  have key : ∀ u k : Int, inR u k → (30 * u + k) / 30 = u ∧ (30 * u + k) % 30 = k ∧ 0 ≤ 30 * u + k ∧ 30 * u + k < 90 := fun u k hi => by
    obtain ⟨a, c⟩ := hi
    omega
  have e := q (fun u k => inR u k ∧ g (30 * u + k) = 1) (fun u k hi hl => ⟨hi, by
    obtain ⟨e1, e2, e3, e4⟩ := key u k hi
    refine h2 _ e3 e4 ?_
    rw [e1, e2]
    exact hl⟩) (fun u k t2 j2 hi hs hl => ⟨hi, by
    obtain ⟨e1, e2, e3, e4⟩ := key u k hi
    obtain ⟨d1, d2, d3, d4⟩ := key t2 j2 hs.1
    rcases h1 _ e3 e4 with a | a
    · exfalso
      refine hz.1 _ _ e3 e4 d3 d4 a hs.2 ?_
      rw [e1, e2, d1, d2]
      exact hl
    · exact a⟩)
  have e2 := e.2
  rw [show 30 * (z / 30) + z % 30 = z by omega] at e2
  exact e2
end LEANS
/-! ===== rows that would go, values that would become NULL ===== -/
def nn1 (p v : Int → Int) (z : Int) : Int := if p z = -1000 ∧ v z ≠ -1000 then 1 else 0
theorem nn1_st (p v : Int → Int) (z : Int) : (p z = -1000 ∧ v z ≠ -1000 → nn1 p v z = 1) ∧ (¬ (p z = -1000 ∧ v z ≠ -1000) → nn1 p v z = 0) := ⟨fun h => if_pos h, fun h => if_neg h⟩
def clA (f0 f1 : Nat → Int32) (x c : Int) : Int := if aI f1 x = 1 ∧ aI f0 (x + c) ≠ aI f1 (x + c) then 1 else 0
theorem clA_st (f0 f1 : Nat → Int32) (x c : Int) : (aI f1 x = 1 ∧ aI f0 (x + c) ≠ aI f1 (x + c) → clA f0 f1 x c = 1) ∧ (¬ (aI f1 x = 1 ∧ aI f0 (x + c) ≠ aI f1 (x + c)) → clA f0 f1 x c = 0) := ⟨fun h => if_pos h, fun h => if_neg h⟩
def clR (f0 f1 : Nat → Int32) (x z : Int) : Int := smS (clA f0 f1 x) 1 z
theorem clR_0 (f0 f1 : Nat → Int32) (x : Int) : clR f0 f1 x 1 = 0 := smS_0 _ _
theorem clR_s (f0 f1 : Nat → Int32) (x : Int) {z : Int} (h : 1 ≤ z) : clR f0 f1 x (z + 1) = clR f0 f1 x z + clA f0 f1 x z := smS_s h
theorem clR_4 (f0 f1 : Nat → Int32) (x : Int) : clR f0 f1 x 4 = clA f0 f1 x 1 + clA f0 f1 x 2 + clA f0 f1 x 3 := by
  have h1 := clR_s f0 f1 x (z := 1) (by decide)
  have h2 := clR_s f0 f1 x (z := 2) (by decide)
  have h3 := clR_s f0 f1 x (z := 3) (by decide)
  have h0 := clR_0 f0 f1 x
  rw [show (3 : Int) + 1 = 4 from by decide] at h3
  rw [show (2 : Int) + 1 = 3 from by decide] at h2
  rw [show (1 : Int) + 1 = 2 from by decide] at h1
  omega
theorem clR_z {f0 f1 : Nat → Int32} {x z : Int} (h : aI f1 x ≠ 1) (hz : 1 ≤ z ∧ z ≤ 4) : clR f0 f1 x 4 = clR f0 f1 x z := by
  have h1 := clR_s f0 f1 x (z := 1) (by decide)
  have h2 := clR_s f0 f1 x (z := 2) (by decide)
  have h3 := clR_s f0 f1 x (z := 3) (by decide)
  have h0 := clR_0 f0 f1 x
  rw [show (3 : Int) + 1 = 4 from by decide] at h3
  rw [show (2 : Int) + 1 = 3 from by decide] at h2
  rw [show (1 : Int) + 1 = 2 from by decide] at h1
  have c1 := (clA_st f0 f1 x 1).2 (fun q => h q.1)
  have c2 := (clA_st f0 f1 x 2).2 (fun q => h q.1)
  have c3 := (clA_st f0 f1 x 3).2 (fun q => h q.1)
  have hc : z = 1 ∨ z = 2 ∨ z = 3 ∨ z = 4 := by omega
  rcases hc with e | e | e | e
  · rw [e]; omega
  · rw [e]; omega
  · rw [e]; omega
  · rw [e]
def clT (f0 f1 : Nat → Int32) (z : Int) : Int := bsI (fun j => clR f0 f1 (4 * j) 4) (z / 4)
theorem clT_0 (f0 f1 : Nat → Int32) : clT f0 f1 0 = 0 := rfl
theorem clT_s (f0 f1 : Nat → Int32) {z : Int} (h : 0 ≤ z) (h4 : z % 4 = 0) : clT f0 f1 (z + 4) = clT f0 f1 z + clR f0 f1 z 4 := by
  unfold clT
  rw [show (z + 4) / 4 = z / 4 + 1 by omega, bsI_s _ (by omega)]
  show _ + clR f0 f1 (4 * (z / 4)) 4 = _
  rw [show 4 * (z / 4) = z by omega]
end
theorem v_X11_wouldTell_1_1 {F : Nat → Nat → Nat} (a : Nat) (G : XG)
    (hR : RV (G.2.1 (F a 10))) :
    RV (G.2.1 (F a 10)) := by exact hR
theorem v_X11_wouldTell_1_2 {F : Nat → Nat → Nat} (a : Nat) (G : XG)
    (hM : RM (G.2.1 (F a 1)) (0)) :
    RM (G.2.1 (F a 1)) (0) := by exact hM
theorem v_X11_wouldTell_1_3 {F : Nat → Nat → Nat} (a : Nat) (G : XG) (r1 : Int → Int)
    (h1 : LSt (G.2.1 (F a 10)) (G.2.1 (F a 12)) r1 12) :
    LSt (G.2.1 (F a 10)) (G.2.1 (F a 12)) r1 12 := by exact h1
theorem v_X11_wouldTell_49_4 {K : Nat → Nat} {F : Nat → Nat → Nat} (a : Nat) (G : XG) (G1 : XG) (r1 : Int → Int) (x1 : Int32)
    (ha : K a = 13)
    (hk9999 : K (F a 15) = 42)
    (hj9999 : F (F a 15) 99 = 15)
    (hk9999a : K (F a 17) = 43)
    (hj9999a : F (F a 17) 99 = 17)
    (hk9999b : K (F a 18) = 44)
    (hj9999b : F (F a 18) 99 = 18)
    (hk9999c : K (F a 11) = 38)
    (hj9999c : F (F a 11) 99 = 11)
    (hk9999d : K (F a 1) = 30)
    (hj9999d : F (F a 1) 99 = 1)
    (hk9999e : K (F a 4) = 31)
    (hj9999e : F (F a 4) 99 = 4)
    (hk9999f : K (F a 10) = 37)
    (hj9999f : F (F a 10) 99 = 10)
    (hk9999g : K (F a 12) = 38)
    (hj9999g : F (F a 12) 99 = 12)
    (hF1 : XFr [(a, 16), (a, 19), (a, 45), (a, 46)] [F a 15, F a 17, F a 18, F a 11] [] G G1)
    (hR : RV (G.2.1 (F a 10)))
    (hM : RM (G.2.1 (F a 1)) (0))
    (hA : RM (G.2.1 (F a 4)) 0)
    (h1 : LSt (G.2.1 (F a 10)) (G.2.1 (F a 12)) r1 12)
    (oq1 : ((G1.1 a 45).toInt) = (((fuO (G.2.1 (F a 10)) r1 (mw (G.2.1 (F a 1)) 0) 2).length : Nat) : Int))
    (oq1a : pL G1 F a = fuO (G.2.1 (F a 10)) r1 (mw (G.2.1 (F a 1)) 0) 0)
    (oq1b : x1.toInt = ffP (G.2.1 (F a 10)) (mw (G.2.1 (F a 1)) 0) (fuO (G.2.1 (F a 10)) r1 (mw (G.2.1 (F a 1)) 0) 0))
    (oq1c : ((G1.1 a 46).toInt) = x1.toInt)
    (oq1d : LSt (G.2.1 (F a 10)) (G1.2.1 (F a 11)) (mw (G.2.1 (F a 1)) 0) 12)
    (oq1e : 0 ≤ ((G1.1 a 19).toInt) ∧ ((G1.1 a 19).toInt) ≤ 2388 ∧ -1 ≤ x1.toInt ∧ x1.toInt < ((G1.1 a 19).toInt))
    (c5 : x1.toInt = (-1 : Int))
    (f29 : ((G.1 a 6).toInt) = 0 ∨ ((G.1 a 6).toInt) = 1)
    (c17 : ((G.1 a 6).toInt) ≠ 0)
    (c_G1_F_a_1 : G1.2.1 (F a 1) = G.2.1 (F a 1))
    (c_G1_F_a_4 : G1.2.1 (F a 4) = G.2.1 (F a 4)) :
    (F a 4) ≠ (F a 1) := by
  intro e
  have h1 : K (F a 1) = 30 := by assumption
  have h2 : K (F a 4) = 31 := by assumption
  rw [← e, h2] at h1
  exact absurd h1 (by decide)
theorem v_X11_wouldTell_53_5 {K : Nat → Nat} {F : Nat → Nat → Nat} (a : Nat) (G : XG) (G1 : XG) (r1 : Int → Int) (x1 : Int32)
    (ha : K a = 13)
    (oq1 : ((G1.1 a 45).toInt) = (((fuO (G.2.1 (F a 10)) r1 (mw (G.2.1 (F a 1)) 0) 2).length : Nat) : Int))
    (oq1b : x1.toInt = ffP (G.2.1 (F a 10)) (mw (G.2.1 (F a 1)) 0) (fuO (G.2.1 (F a 10)) r1 (mw (G.2.1 (F a 1)) 0) 0))
    (oq1c : ((G1.1 a 46).toInt) = x1.toInt)
    (oq1e : 0 ≤ ((G1.1 a 19).toInt) ∧ ((G1.1 a 19).toInt) ≤ 2388 ∧ -1 ≤ x1.toInt ∧ x1.toInt < ((G1.1 a 19).toInt))
    (c5 : x1.toInt = (-1 : Int))
    (f31 : ((G.1 a 6).toInt) = 0 ∨ ((G.1 a 6).toInt) = 1)
    (c17 : ((G.1 a 6).toInt) ≠ 0) :
    AnsM ((G.1 a 6).toInt) ((G1.1 a 45).toInt) (G.2.1 (F a 10)) r1 (mw (G.2.1 (F a 1)) 0) := by
  unfold AnsM
  first
    | exact Or.inl ⟨Or.inl (by rw [← oq1b]; omega), rfl⟩
    | (rw [oq22] at oq22a; exact Or.inl ⟨Or.inr ⟨by omega, by rw [← oq22a]; omega⟩, rfl⟩)
    | exact Or.inr ⟨by rw [← oq1b]; omega, fun h => absurd h (by omega), oq1⟩
    | (rw [oq22] at oq22a; exact Or.inr ⟨by rw [← oq1b]; omega, fun h => by rw [← oq22a]; omega, oq1⟩)
theorem v_X11_wouldTell_53_6 {F : Nat → Nat → Nat} (a : Nat) (G : XG) (G1 : XG) (G49 : XG)
    (oq49 : CPd (G1.2.1 (F a 4)) (G1.2.1 (F a 1)) (G49.2.1 (F a 1)) (0 : Int) (0 : Int) 360)
    (c_G1_F_a_4 : G1.2.1 (F a 4) = G.2.1 (F a 4)) :
    mw (G49.2.1 (F a 1)) 0 = mw (G.2.1 (F a 4)) 0 := by
  first
    | (rw [← c_G1_F_a_4]; exact CPd.vwm oq49 (by decide))
    | (rw [← c_G22_F_a_4]; exact CPd.vwm oq49 (by decide))
theorem v_X11_wouldTell_53_7 {F : Nat → Nat → Nat} (a : Nat) (G : XG) (G1 : XG) (G49 : XG)
    (hA : RM (G.2.1 (F a 4)) 0)
    (oq49 : CPd (G1.2.1 (F a 4)) (G1.2.1 (F a 1)) (G49.2.1 (F a 1)) (0 : Int) (0 : Int) 360)
    (c_G1_F_a_4 : G1.2.1 (F a 4) = G.2.1 (F a 4)) :
    RM (G49.2.1 (F a 1)) 0 := by
  first
    | exact CPd.rm oq49 (by decide) (by rw [c_G1_F_a_4]; exact hA)
    | exact CPd.rm oq49 (by decide) (by rw [c_G22_F_a_4]; exact hA)
theorem v_X11_wouldTell_22_8 {F : Nat → Nat → Nat} (a : Nat) (G : XG) (G1 : XG)
    (hR : RV (G.2.1 (F a 10)))
    (c_G1_F_a_10 : G1.2.1 (F a 10) = G.2.1 (F a 10)) :
    RV (G1.2.1 (F a 10)) := by simp only [c_G1_F_a_10]; assumption
theorem v_X11_wouldTell_22_9 {F : Nat → Nat → Nat} (a : Nat) (G : XG) (G1 : XG)
    (hM : RM (G.2.1 (F a 1)) (0))
    (hA : RM (G.2.1 (F a 4)) 0)
    (c_G1_F_a_1 : G1.2.1 (F a 1) = G.2.1 (F a 1)) :
    RM (G1.2.1 (F a 1)) (0) := by simp only [c_G1_F_a_1]; assumption
theorem v_X11_wouldTell_22_10 {F : Nat → Nat → Nat} (a : Nat) (G : XG) (G1 : XG) (r1 : Int → Int)
    (h1 : LSt (G.2.1 (F a 10)) (G.2.1 (F a 12)) r1 12)
    (oq1d : LSt (G.2.1 (F a 10)) (G1.2.1 (F a 11)) (mw (G.2.1 (F a 1)) 0) 12)
    (c_G1_F_a_10 : G1.2.1 (F a 10) = G.2.1 (F a 10))
    (c_G1_F_a_12 : G1.2.1 (F a 12) = G.2.1 (F a 12)) :
    LSt (G1.2.1 (F a 10)) (G1.2.1 (F a 12)) r1 12 := by simp only [c_G1_F_a_10, c_G1_F_a_12]; assumption
theorem v_X11_wouldTell_22_11 {F : Nat → Nat → Nat} (G : XG) (a : Nat) (G1 : XG)
    (oq1d : LSt (G.2.1 (F a 10)) (G1.2.1 (F a 11)) (mw (G.2.1 (F a 1)) 0) 12)
    (c_G1_F_a_1 : G1.2.1 (F a 1) = G.2.1 (F a 1))
    (c_G1_F_a_10 : G1.2.1 (F a 10) = G.2.1 (F a 10)) :
    LSt (G1.2.1 (F a 10)) (G1.2.1 (F a 11)) (mw (G1.2.1 (F a 1)) 0) 12 := by
  (try rw [c_G1_F_a_10])
  (try rw [c_G1_F_a_1])
  exact oq1d
theorem v_X11_wouldTell_49_12 {K : Nat → Nat} {F : Nat → Nat → Nat} (a : Nat) (G : XG) (G1 : XG) (G22 : XG) (r1 : Int → Int) (x1 : Int32) (x22 : Int32)
    (ha : K a = 13)
    (hk9999 : K (F a 15) = 42)
    (hj9999 : F (F a 15) 99 = 15)
    (hk9999a : K (F a 17) = 43)
    (hj9999a : F (F a 17) 99 = 17)
    (hk9999b : K (F a 18) = 44)
    (hj9999b : F (F a 18) 99 = 18)
    (hk9999c : K (F a 11) = 38)
    (hj9999c : F (F a 11) 99 = 11)
    (hk9999d : K (F a 1) = 30)
    (hj9999d : F (F a 1) 99 = 1)
    (hk9999e : K (F a 4) = 31)
    (hj9999e : F (F a 4) 99 = 4)
    (hk9999f : K (F a 10) = 37)
    (hj9999f : F (F a 10) 99 = 10)
    (hk9999g : K (F a 12) = 38)
    (hj9999g : F (F a 12) 99 = 12)
    (hF1 : XFr [(a, 16), (a, 19), (a, 45), (a, 46)] [F a 15, F a 17, F a 18, F a 11] [] G G1)
    (hF22 : XFr [(a, 16), (a, 19)] [F a 15, F a 17, F a 18] [] G1 G22)
    (hR : RV (G.2.1 (F a 10)))
    (hM : RM (G.2.1 (F a 1)) (0))
    (hA : RM (G.2.1 (F a 4)) 0)
    (h1 : LSt (G.2.1 (F a 10)) (G.2.1 (F a 12)) r1 12)
    (oq1 : ((G1.1 a 45).toInt) = (((fuO (G.2.1 (F a 10)) r1 (mw (G.2.1 (F a 1)) 0) 2).length : Nat) : Int))
    (oq1a : pL G1 F a = fuO (G.2.1 (F a 10)) r1 (mw (G.2.1 (F a 1)) 0) 0)
    (oq1b : x1.toInt = ffP (G.2.1 (F a 10)) (mw (G.2.1 (F a 1)) 0) (fuO (G.2.1 (F a 10)) r1 (mw (G.2.1 (F a 1)) 0) 0))
    (oq1c : ((G1.1 a 46).toInt) = x1.toInt)
    (oq1d : LSt (G.2.1 (F a 10)) (G1.2.1 (F a 11)) (mw (G.2.1 (F a 1)) 0) 12)
    (oq1e : 0 ≤ ((G1.1 a 19).toInt) ∧ ((G1.1 a 19).toInt) ≤ 2388 ∧ -1 ≤ x1.toInt ∧ x1.toInt < ((G1.1 a 19).toInt))
    (oq22 : pL G22 F a = fuO (G.2.1 (F a 10)) r1 (mw (G.2.1 (F a 1)) 0) (1 : Int))
    (oq22a : x22.toInt = ffP (G.2.1 (F a 10)) (mw (G.2.1 (F a 1)) 0) (pL G22 F a))
    (oq22b : 0 ≤ ((G22.1 a 19).toInt) ∧ ((G22.1 a 19).toInt) ≤ 2388 ∧ x22.toInt < ((G22.1 a 19).toInt))
    (c5 : x1.toInt = (-1 : Int))
    (f33 : ((G.1 a 6).toInt) = 0 ∨ ((G.1 a 6).toInt) = 1)
    (c17 : ¬ (((G.1 a 6).toInt) ≠ 0))
    (t22 : -1 ≤ x22.toInt)
    (c26 : x22.toInt = (-1 : Int))
    (c_G1_F_a_4 : G1.2.1 (F a 4) = G.2.1 (F a 4))
    (c_G22_F_a_1 : G22.2.1 (F a 1) = G.2.1 (F a 1))
    (c_G22_F_a_11 : G22.2.1 (F a 11) = G1.2.1 (F a 11))
    (c_G22_F_a_4 : G22.2.1 (F a 4) = G.2.1 (F a 4))
    (d_G22_a_45 : G22.1 a 45 = G1.1 a 45)
    (d_G22_a_46 : G22.1 a 46 = G1.1 a 46) :
    (F a 4) ≠ (F a 1) := by
  intro e
  have h1 : K (F a 1) = 30 := by assumption
  have h2 : K (F a 4) = 31 := by assumption
  rw [← e, h2] at h1
  exact absurd h1 (by decide)
theorem v_X11_wouldTell_53_13 {K : Nat → Nat} {F : Nat → Nat → Nat} (a : Nat) (G : XG) (G1 : XG) (G22 : XG) (r1 : Int → Int) (x1 : Int32) (x22 : Int32)
    (ha : K a = 13)
    (oq1 : ((G1.1 a 45).toInt) = (((fuO (G.2.1 (F a 10)) r1 (mw (G.2.1 (F a 1)) 0) 2).length : Nat) : Int))
    (oq1b : x1.toInt = ffP (G.2.1 (F a 10)) (mw (G.2.1 (F a 1)) 0) (fuO (G.2.1 (F a 10)) r1 (mw (G.2.1 (F a 1)) 0) 0))
    (oq1c : ((G1.1 a 46).toInt) = x1.toInt)
    (oq1e : 0 ≤ ((G1.1 a 19).toInt) ∧ ((G1.1 a 19).toInt) ≤ 2388 ∧ -1 ≤ x1.toInt ∧ x1.toInt < ((G1.1 a 19).toInt))
    (oq22 : pL G22 F a = fuO (G.2.1 (F a 10)) r1 (mw (G.2.1 (F a 1)) 0) (1 : Int))
    (oq22a : x22.toInt = ffP (G.2.1 (F a 10)) (mw (G.2.1 (F a 1)) 0) (pL G22 F a))
    (oq22b : 0 ≤ ((G22.1 a 19).toInt) ∧ ((G22.1 a 19).toInt) ≤ 2388 ∧ x22.toInt < ((G22.1 a 19).toInt))
    (c5 : x1.toInt = (-1 : Int))
    (f35 : ((G.1 a 6).toInt) = 0 ∨ ((G.1 a 6).toInt) = 1)
    (c17 : ¬ (((G.1 a 6).toInt) ≠ 0))
    (t22 : -1 ≤ x22.toInt)
    (c26 : x22.toInt = (-1 : Int)) :
    AnsM ((G.1 a 6).toInt) ((G1.1 a 45).toInt) (G.2.1 (F a 10)) r1 (mw (G.2.1 (F a 1)) 0) := by
  unfold AnsM
  first
    | exact Or.inl ⟨Or.inl (by rw [← oq1b]; omega), rfl⟩
    | (rw [oq22] at oq22a; exact Or.inl ⟨Or.inr ⟨by omega, by rw [← oq22a]; omega⟩, rfl⟩)
    | exact Or.inr ⟨by rw [← oq1b]; omega, fun h => absurd h (by omega), oq1⟩
    | (rw [oq22] at oq22a; exact Or.inr ⟨by rw [← oq1b]; omega, fun h => by rw [← oq22a]; omega, oq1⟩)
theorem v_X11_wouldTell_53_14 {F : Nat → Nat → Nat} (a : Nat) (G : XG) (G1 : XG) (G22 : XG) (G49 : XG)
    (oq49 : CPd (G22.2.1 (F a 4)) (G22.2.1 (F a 1)) (G49.2.1 (F a 1)) (0 : Int) (0 : Int) 360)
    (c_G1_F_a_4 : G1.2.1 (F a 4) = G.2.1 (F a 4))
    (c_G22_F_a_4 : G22.2.1 (F a 4) = G.2.1 (F a 4)) :
    mw (G49.2.1 (F a 1)) 0 = mw (G.2.1 (F a 4)) 0 := by
  first
    | (rw [← c_G1_F_a_4]; exact CPd.vwm oq49 (by decide))
    | (rw [← c_G22_F_a_4]; exact CPd.vwm oq49 (by decide))
theorem v_X11_wouldTell_53_15 {F : Nat → Nat → Nat} (a : Nat) (G : XG) (G1 : XG) (G22 : XG) (G49 : XG)
    (hA : RM (G.2.1 (F a 4)) 0)
    (oq49 : CPd (G22.2.1 (F a 4)) (G22.2.1 (F a 1)) (G49.2.1 (F a 1)) (0 : Int) (0 : Int) 360)
    (c_G1_F_a_4 : G1.2.1 (F a 4) = G.2.1 (F a 4))
    (c_G22_F_a_4 : G22.2.1 (F a 4) = G.2.1 (F a 4)) :
    RM (G49.2.1 (F a 1)) 0 := by
  first
    | exact CPd.rm oq49 (by decide) (by rw [c_G1_F_a_4]; exact hA)
    | exact CPd.rm oq49 (by decide) (by rw [c_G22_F_a_4]; exact hA)
theorem v_X11_wouldTell_49_16 {K : Nat → Nat} {F : Nat → Nat → Nat} (a : Nat) (G : XG) (G1 : XG) (G22 : XG) (r1 : Int → Int) (x1 : Int32) (x22 : Int32)
    (ha : K a = 13)
    (hk9999 : K (F a 15) = 42)
    (hj9999 : F (F a 15) 99 = 15)
    (hk9999a : K (F a 17) = 43)
    (hj9999a : F (F a 17) 99 = 17)
    (hk9999b : K (F a 18) = 44)
    (hj9999b : F (F a 18) 99 = 18)
    (hk9999c : K (F a 11) = 38)
    (hj9999c : F (F a 11) 99 = 11)
    (hk9999d : K (F a 1) = 30)
    (hj9999d : F (F a 1) 99 = 1)
    (hk9999e : K (F a 4) = 31)
    (hj9999e : F (F a 4) 99 = 4)
    (hk9999f : K (F a 10) = 37)
    (hj9999f : F (F a 10) 99 = 10)
    (hk9999g : K (F a 12) = 38)
    (hj9999g : F (F a 12) 99 = 12)
    (hF1 : XFr [(a, 16), (a, 19), (a, 45), (a, 46)] [F a 15, F a 17, F a 18, F a 11] [] G G1)
    (hF22 : XFr [(a, 16), (a, 19)] [F a 15, F a 17, F a 18] [] G1 G22)
    (hR : RV (G.2.1 (F a 10)))
    (hM : RM (G.2.1 (F a 1)) (0))
    (hA : RM (G.2.1 (F a 4)) 0)
    (h1 : LSt (G.2.1 (F a 10)) (G.2.1 (F a 12)) r1 12)
    (oq1 : ((G1.1 a 45).toInt) = (((fuO (G.2.1 (F a 10)) r1 (mw (G.2.1 (F a 1)) 0) 2).length : Nat) : Int))
    (oq1a : pL G1 F a = fuO (G.2.1 (F a 10)) r1 (mw (G.2.1 (F a 1)) 0) 0)
    (oq1b : x1.toInt = ffP (G.2.1 (F a 10)) (mw (G.2.1 (F a 1)) 0) (fuO (G.2.1 (F a 10)) r1 (mw (G.2.1 (F a 1)) 0) 0))
    (oq1c : ((G1.1 a 46).toInt) = x1.toInt)
    (oq1d : LSt (G.2.1 (F a 10)) (G1.2.1 (F a 11)) (mw (G.2.1 (F a 1)) 0) 12)
    (oq1e : 0 ≤ ((G1.1 a 19).toInt) ∧ ((G1.1 a 19).toInt) ≤ 2388 ∧ -1 ≤ x1.toInt ∧ x1.toInt < ((G1.1 a 19).toInt))
    (oq22 : pL G22 F a = fuO (G.2.1 (F a 10)) r1 (mw (G.2.1 (F a 1)) 0) (1 : Int))
    (oq22a : x22.toInt = ffP (G.2.1 (F a 10)) (mw (G.2.1 (F a 1)) 0) (pL G22 F a))
    (oq22b : 0 ≤ ((G22.1 a 19).toInt) ∧ ((G22.1 a 19).toInt) ≤ 2388 ∧ x22.toInt < ((G22.1 a 19).toInt))
    (c5 : x1.toInt = (-1 : Int))
    (f33 : ((G.1 a 6).toInt) = 0 ∨ ((G.1 a 6).toInt) = 1)
    (c17 : ¬ (((G.1 a 6).toInt) ≠ 0))
    (t22 : -1 ≤ x22.toInt)
    (c26 : ¬ (x22.toInt = (-1 : Int)))
    (c_G1_F_a_4 : G1.2.1 (F a 4) = G.2.1 (F a 4))
    (c_G22_F_a_1 : G22.2.1 (F a 1) = G.2.1 (F a 1))
    (c_G22_F_a_11 : G22.2.1 (F a 11) = G1.2.1 (F a 11))
    (c_G22_F_a_4 : G22.2.1 (F a 4) = G.2.1 (F a 4))
    (d_G22_a_45 : G22.1 a 45 = G1.1 a 45)
    (d_G22_a_46 : G22.1 a 46 = G1.1 a 46) :
    (F a 4) ≠ (F a 1) := by
  intro e
  have h1 : K (F a 1) = 30 := by assumption
  have h2 : K (F a 4) = 31 := by assumption
  rw [← e, h2] at h1
  exact absurd h1 (by decide)
theorem v_X11_wouldTell_53_17 {K : Nat → Nat} {F : Nat → Nat → Nat} (a : Nat) (G : XG) (G1 : XG) (G22 : XG) (r1 : Int → Int) (x1 : Int32) (x22 : Int32)
    (ha : K a = 13)
    (oq1 : ((G1.1 a 45).toInt) = (((fuO (G.2.1 (F a 10)) r1 (mw (G.2.1 (F a 1)) 0) 2).length : Nat) : Int))
    (oq1b : x1.toInt = ffP (G.2.1 (F a 10)) (mw (G.2.1 (F a 1)) 0) (fuO (G.2.1 (F a 10)) r1 (mw (G.2.1 (F a 1)) 0) 0))
    (oq1c : ((G1.1 a 46).toInt) = x1.toInt)
    (oq1e : 0 ≤ ((G1.1 a 19).toInt) ∧ ((G1.1 a 19).toInt) ≤ 2388 ∧ -1 ≤ x1.toInt ∧ x1.toInt < ((G1.1 a 19).toInt))
    (oq22 : pL G22 F a = fuO (G.2.1 (F a 10)) r1 (mw (G.2.1 (F a 1)) 0) (1 : Int))
    (oq22a : x22.toInt = ffP (G.2.1 (F a 10)) (mw (G.2.1 (F a 1)) 0) (pL G22 F a))
    (oq22b : 0 ≤ ((G22.1 a 19).toInt) ∧ ((G22.1 a 19).toInt) ≤ 2388 ∧ x22.toInt < ((G22.1 a 19).toInt))
    (c5 : x1.toInt = (-1 : Int))
    (f35 : ((G.1 a 6).toInt) = 0 ∨ ((G.1 a 6).toInt) = 1)
    (c17 : ¬ (((G.1 a 6).toInt) ≠ 0))
    (t22 : -1 ≤ x22.toInt)
    (c26 : ¬ (x22.toInt = (-1 : Int))) :
    AnsM ((G.1 a 6).toInt) (-5 : Int) (G.2.1 (F a 10)) r1 (mw (G.2.1 (F a 1)) 0) := by
  unfold AnsM
  first
    | exact Or.inl ⟨Or.inl (by rw [← oq1b]; omega), rfl⟩
    | (rw [oq22] at oq22a; exact Or.inl ⟨Or.inr ⟨by omega, by rw [← oq22a]; omega⟩, rfl⟩)
    | exact Or.inr ⟨by rw [← oq1b]; omega, fun h => absurd h (by omega), oq1⟩
    | (rw [oq22] at oq22a; exact Or.inr ⟨by rw [← oq1b]; omega, fun h => by rw [← oq22a]; omega, oq1⟩)
theorem v_X11_wouldTell_53_18 {F : Nat → Nat → Nat} (a : Nat) (G : XG) (G1 : XG) (G22 : XG) (G49 : XG)
    (oq49 : CPd (G22.2.1 (F a 4)) (G22.2.1 (F a 1)) (G49.2.1 (F a 1)) (0 : Int) (0 : Int) 360)
    (c_G1_F_a_4 : G1.2.1 (F a 4) = G.2.1 (F a 4))
    (c_G22_F_a_4 : G22.2.1 (F a 4) = G.2.1 (F a 4)) :
    mw (G49.2.1 (F a 1)) 0 = mw (G.2.1 (F a 4)) 0 := by
  first
    | (rw [← c_G1_F_a_4]; exact CPd.vwm oq49 (by decide))
    | (rw [← c_G22_F_a_4]; exact CPd.vwm oq49 (by decide))
theorem v_X11_wouldTell_53_19 {F : Nat → Nat → Nat} (a : Nat) (G : XG) (G1 : XG) (G22 : XG) (G49 : XG)
    (hA : RM (G.2.1 (F a 4)) 0)
    (oq49 : CPd (G22.2.1 (F a 4)) (G22.2.1 (F a 1)) (G49.2.1 (F a 1)) (0 : Int) (0 : Int) 360)
    (c_G1_F_a_4 : G1.2.1 (F a 4) = G.2.1 (F a 4))
    (c_G22_F_a_4 : G22.2.1 (F a 4) = G.2.1 (F a 4)) :
    RM (G49.2.1 (F a 1)) 0 := by
  first
    | exact CPd.rm oq49 (by decide) (by rw [c_G1_F_a_4]; exact hA)
    | exact CPd.rm oq49 (by decide) (by rw [c_G22_F_a_4]; exact hA)
theorem v_X11_wouldTell_49_20 {K : Nat → Nat} {F : Nat → Nat → Nat} (a : Nat) (G : XG) (G1 : XG) (r1 : Int → Int) (x1 : Int32)
    (ha : K a = 13)
    (hk9999 : K (F a 15) = 42)
    (hj9999 : F (F a 15) 99 = 15)
    (hk9999a : K (F a 17) = 43)
    (hj9999a : F (F a 17) 99 = 17)
    (hk9999b : K (F a 18) = 44)
    (hj9999b : F (F a 18) 99 = 18)
    (hk9999c : K (F a 11) = 38)
    (hj9999c : F (F a 11) 99 = 11)
    (hk9999d : K (F a 1) = 30)
    (hj9999d : F (F a 1) 99 = 1)
    (hk9999e : K (F a 4) = 31)
    (hj9999e : F (F a 4) 99 = 4)
    (hk9999f : K (F a 10) = 37)
    (hj9999f : F (F a 10) 99 = 10)
    (hk9999g : K (F a 12) = 38)
    (hj9999g : F (F a 12) 99 = 12)
    (hF1 : XFr [(a, 16), (a, 19), (a, 45), (a, 46)] [F a 15, F a 17, F a 18, F a 11] [] G G1)
    (hR : RV (G.2.1 (F a 10)))
    (hM : RM (G.2.1 (F a 1)) (0))
    (hA : RM (G.2.1 (F a 4)) 0)
    (h1 : LSt (G.2.1 (F a 10)) (G.2.1 (F a 12)) r1 12)
    (oq1 : ((G1.1 a 45).toInt) = (((fuO (G.2.1 (F a 10)) r1 (mw (G.2.1 (F a 1)) 0) 2).length : Nat) : Int))
    (oq1a : pL G1 F a = fuO (G.2.1 (F a 10)) r1 (mw (G.2.1 (F a 1)) 0) 0)
    (oq1b : x1.toInt = ffP (G.2.1 (F a 10)) (mw (G.2.1 (F a 1)) 0) (fuO (G.2.1 (F a 10)) r1 (mw (G.2.1 (F a 1)) 0) 0))
    (oq1c : ((G1.1 a 46).toInt) = x1.toInt)
    (oq1d : LSt (G.2.1 (F a 10)) (G1.2.1 (F a 11)) (mw (G.2.1 (F a 1)) 0) 12)
    (oq1e : 0 ≤ ((G1.1 a 19).toInt) ∧ ((G1.1 a 19).toInt) ≤ 2388 ∧ -1 ≤ x1.toInt ∧ x1.toInt < ((G1.1 a 19).toInt))
    (c5 : ¬ (x1.toInt = (-1 : Int)))
    (c_G1_F_a_1 : G1.2.1 (F a 1) = G.2.1 (F a 1))
    (c_G1_F_a_4 : G1.2.1 (F a 4) = G.2.1 (F a 4)) :
    (F a 4) ≠ (F a 1) := by
  intro e
  have h1 : K (F a 1) = 30 := by assumption
  have h2 : K (F a 4) = 31 := by assumption
  rw [← e, h2] at h1
  exact absurd h1 (by decide)
theorem v_X11_wouldTell_53_21 {K : Nat → Nat} {F : Nat → Nat → Nat} (a : Nat) (G : XG) (G1 : XG) (r1 : Int → Int) (x1 : Int32)
    (ha : K a = 13)
    (oq1 : ((G1.1 a 45).toInt) = (((fuO (G.2.1 (F a 10)) r1 (mw (G.2.1 (F a 1)) 0) 2).length : Nat) : Int))
    (oq1b : x1.toInt = ffP (G.2.1 (F a 10)) (mw (G.2.1 (F a 1)) 0) (fuO (G.2.1 (F a 10)) r1 (mw (G.2.1 (F a 1)) 0) 0))
    (oq1c : ((G1.1 a 46).toInt) = x1.toInt)
    (oq1e : 0 ≤ ((G1.1 a 19).toInt) ∧ ((G1.1 a 19).toInt) ≤ 2388 ∧ -1 ≤ x1.toInt ∧ x1.toInt < ((G1.1 a 19).toInt))
    (c5 : ¬ (x1.toInt = (-1 : Int))) :
    AnsM ((G.1 a 6).toInt) (-5 : Int) (G.2.1 (F a 10)) r1 (mw (G.2.1 (F a 1)) 0) := by
  unfold AnsM
  first
    | exact Or.inl ⟨Or.inl (by rw [← oq1b]; omega), rfl⟩
    | (rw [oq22] at oq22a; exact Or.inl ⟨Or.inr ⟨by omega, by rw [← oq22a]; omega⟩, rfl⟩)
    | exact Or.inr ⟨by rw [← oq1b]; omega, fun h => absurd h (by omega), oq1⟩
    | (rw [oq22] at oq22a; exact Or.inr ⟨by rw [← oq1b]; omega, fun h => by rw [← oq22a]; omega, oq1⟩)
theorem v_X11_wouldTell_53_22 {F : Nat → Nat → Nat} (a : Nat) (G : XG) (G1 : XG) (G49 : XG)
    (oq49 : CPd (G1.2.1 (F a 4)) (G1.2.1 (F a 1)) (G49.2.1 (F a 1)) (0 : Int) (0 : Int) 360)
    (c_G1_F_a_4 : G1.2.1 (F a 4) = G.2.1 (F a 4)) :
    mw (G49.2.1 (F a 1)) 0 = mw (G.2.1 (F a 4)) 0 := by
  first
    | (rw [← c_G1_F_a_4]; exact CPd.vwm oq49 (by decide))
    | (rw [← c_G22_F_a_4]; exact CPd.vwm oq49 (by decide))
theorem v_X11_wouldTell_53_23 {F : Nat → Nat → Nat} (a : Nat) (G : XG) (G1 : XG) (G49 : XG)
    (hA : RM (G.2.1 (F a 4)) 0)
    (oq49 : CPd (G1.2.1 (F a 4)) (G1.2.1 (F a 1)) (G49.2.1 (F a 1)) (0 : Int) (0 : Int) 360)
    (c_G1_F_a_4 : G1.2.1 (F a 4) = G.2.1 (F a 4)) :
    RM (G49.2.1 (F a 1)) 0 := by
  first
    | exact CPd.rm oq49 (by decide) (by rw [c_G1_F_a_4]; exact hA)
    | exact CPd.rm oq49 (by decide) (by rw [c_G22_F_a_4]; exact hA)
theorem v_X11_wouldSet_11_1 {F : Nat → Nat → Nat} (a : Nat) (G2 : XG) (G : XG)
    (hM : RM (G.2.1 (F a 1)) (0))
    (c_G2_F_a_1 : G2.2.1 (F a 1) = G.2.1 (F a 1)) :
    RM (G2.2.1 (F a 1)) 0 := by simp only [c_G2_F_a_1]; assumption
theorem v_X11_wouldSet_25_2 {F : Nat → Nat → Nat} (a : Nat) (G2 : XG) (G : XG)
    (hR : RV (G.2.1 (F a 10)))
    (c_G2_F_a_10 : G2.2.1 (F a 10) = G.2.1 (F a 10)) :
    RV (G2.2.1 (F a 10)) := by simp only [c_G2_F_a_10]; assumption
theorem v_X11_wouldSet_25_3 {F : Nat → Nat → Nat} (a : Nat) (G2 : XG) (G : XG)
    (hM : RM (G.2.1 (F a 1)) (0))
    (c_G2_F_a_1 : G2.2.1 (F a 1) = G.2.1 (F a 1)) :
    RM (G2.2.1 (F a 1)) (0) := by simp only [c_G2_F_a_1]; assumption
theorem v_X11_wouldSet_45_4 {F : Nat → Nat → Nat} (a : Nat) (G : XG) (G43 : XG)
    (hR : RV (G.2.1 (F a 10)))
    (c_G43_F_a_10 : G43.2.1 (F a 10) = G.2.1 (F a 10)) :
    RV (G43.2.1 (F a 10)) := by simp only [c_G43_F_a_10]; assumption
theorem v_X11_wouldSet_45_5 {F : Nat → Nat → Nat} (G43 : XG) (G25 : XG) (a : Nat) (x40 : Int32) (p3 : Int32) (G : XG) (p0 : Int32) (p1 : Int32) (p2 : Int32) (x34 : Int32) (x38 : Int32)
    (hG43 : G43 = cput G25 (F a 1) x40.toNatClampNeg p3)
    (hM : RM (G.2.1 (F a 1)) (0))
    (z24 : 0 ≤ p0.toInt ∧ p0.toInt < 3 ∧ 0 ≤ p1.toInt ∧ p1.toInt < 30 ∧ 0 ≤ p2.toInt ∧ p2.toInt < 3 ∧ (p3.toInt = -1000 ∨ (-99 ≤ p3.toInt ∧ p3.toInt ≤ 99)))
    (t34 : 0 ≤ p0.toInt ∧ p0.toInt ≤ 2 ∧ 0 ≤ p1.toInt ∧ p1.toInt ≤ 29 → x34.toInt = 4 * (30 * p0.toInt + p1.toInt))
    (t38 : x38.toInt = x34.toInt + (1 : Int) ∨ x34.toInt + (1 : Int) < -2147483648 ∨ 2147483648 ≤ x34.toInt + (1 : Int))
    (t40 : x40.toInt = x38.toInt + p2.toInt ∨ x38.toInt + p2.toInt < -2147483648 ∨ 2147483648 ≤ x38.toInt + p2.toInt)
    (c_G25_F_a_1 : G25.2.1 (F a 1) = G.2.1 (F a 1)) :
    RM (G43.2.1 (F a 1)) (0) := by
  exact hM.set (t := p0.toInt) (k := p1.toInt) (c := p2.toInt) (by omega) (by decide) (by omega) (aI_pu hG43 c_G25_F_a_1 rfl rfl (by omega)) (by omega)
theorem v_X11_wouldSet_45_6 {F : Nat → Nat → Nat} (G25 : XG) (a : Nat) (G43 : XG)
    (oq25a : RM (G25.2.1 (F a 4)) 0)
    (c_G43_F_a_4 : G43.2.1 (F a 4) = G25.2.1 (F a 4)) :
    RM (G43.2.1 (F a 4)) 0 := by simp only [c_G43_F_a_4]; assumption
theorem v_X11_wouldSet_45_7 {F : Nat → Nat → Nat} (G : XG) (a : Nat) (G25 : XG) (G43 : XG)
    (oq25b : LSt (G.2.1 (F a 10)) (G25.2.1 (F a 12)) (mw (G.2.1 (F a 1)) 0) 12)
    (c_G43_F_a_10 : G43.2.1 (F a 10) = G.2.1 (F a 10))
    (c_G43_F_a_12 : G43.2.1 (F a 12) = G25.2.1 (F a 12)) :
    LSt (G43.2.1 (F a 10)) (G43.2.1 (F a 12)) (mw (G.2.1 (F a 1)) 0) 12 := by
  rw [c_G43_F_a_10, c_G43_F_a_12]; exact oq25b
theorem v_X11_wouldSet_48_8 {F : Nat → Nat → Nat} (G25 : XG) (a : Nat) (G : XG) (G45 : XG)
    (oq25 : mw (G25.2.1 (F a 4)) 0 = mw (G.2.1 (F a 1)) 0)
    (oq45a : mw (G45.2.1 (F a 1)) 0 = mw (G25.2.1 (F a 4)) 0) :
    mw (G45.2.1 (F a 1)) 0 = mw (G.2.1 (F a 1)) 0 := by
  exact oq45a.trans oq25
theorem v_X11_wouldSet_48_9 {F : Nat → Nat → Nat} (G45 : XG) (a : Nat)
    (oq45b : RM (G45.2.1 (F a 1)) 0) :
    RM (G45.2.1 (F a 1)) 0 := by
  exact oq45b
theorem v_X11_wouldSet_48_10 {K : Nat → Nat} {F : Nat → Nat → Nat} (a : Nat) (G : XG) (G25 : XG) (G43 : XG) (x40 : Int32) (p3 : Int32) (x11 : Int32) (p0 : Int32) (p1 : Int32) (p2 : Int32) (x45 : Int32) (x34 : Int32) (x38 : Int32)
    (ha : K a = 13)
    (hG43 : G43 = cput G25 (F a 1) x40.toNatClampNeg p3)
    (hM : RM (G.2.1 (F a 1)) (0))
    (oq11 : x11.toInt = whyS (mw (G.2.1 (F a 1)) 0) p0.toInt p1.toInt p2.toInt p3.toInt)
    (oq45 : AnsM ((G.1 a 6).toInt) x45.toInt (G.2.1 (F a 10)) (mw (G.2.1 (F a 1)) 0) (mw (G43.2.1 (F a 1)) 0))
    (c18 : x11.toInt = 0)
    (z24 : 0 ≤ p0.toInt ∧ p0.toInt < 3 ∧ 0 ≤ p1.toInt ∧ p1.toInt < 30 ∧ 0 ≤ p2.toInt ∧ p2.toInt < 3 ∧ (p3.toInt = -1000 ∨ (-99 ≤ p3.toInt ∧ p3.toInt ≤ 99)))
    (t34 : 0 ≤ p0.toInt ∧ p0.toInt ≤ 2 ∧ 0 ≤ p1.toInt ∧ p1.toInt ≤ 29 → x34.toInt = 4 * (30 * p0.toInt + p1.toInt))
    (t38 : x38.toInt = x34.toInt + (1 : Int) ∨ x34.toInt + (1 : Int) < -2147483648 ∨ 2147483648 ≤ x34.toInt + (1 : Int))
    (t40 : x40.toInt = x38.toInt + p2.toInt ∨ x38.toInt + p2.toInt < -2147483648 ∨ 2147483648 ≤ x38.toInt + p2.toInt)
    (c_G25_F_a_1 : G25.2.1 (F a 1) = G.2.1 (F a 1)) :
    (whyS (mw (G.2.1 (F a 1)) 0) p0.toInt p1.toInt p2.toInt p3.toInt ≠ 0 ∧ x45.toInt = whyS (mw (G.2.1 (F a 1)) 0) p0.toInt p1.toInt p2.toInt p3.toInt) ∨ (whyS (mw (G.2.1 (F a 1)) 0) p0.toInt p1.toInt p2.toInt p3.toInt = 0 ∧ AnsM ((G.1 a 6).toInt) x45.toInt (G.2.1 (F a 10)) (mw (G.2.1 (F a 1)) 0) (rset (mw (G.2.1 (F a 1)) 0) (90 * p0.toInt + 30 * p2.toInt + p1.toInt) p3.toInt)) := by
  have w0 := whyS_0 (oq11.symm.trans c18)
  have fl : aI (G.2.1 (F a 1)) (0 + 4 * (30 * p0.toInt + p1.toInt)) = 1 := by
    rcases hM.flag (t := p0.toInt) (k := p1.toInt) (by omega) with h | h
    · exact absurd h.2 w0.2.1
    · exact h.1
  have e1 := mw_set (b := 0) (t := p0.toInt) (k := p1.toInt) (c := p2.toInt) (by omega) (by decide) (by omega) (aI_pu hG43 c_G25_F_a_1 rfl rfl (by omega)) fl
  rw [e1] at oq45
  exact Or.inr ⟨oq11.symm.trans c18, oq45⟩
theorem v_X11_wouldSet_23_11 {F : Nat → Nat → Nat} (G2 : XG) (a : Nat) (G : XG)
    (c_G2_F_a_1 : G2.2.1 (F a 1) = G.2.1 (F a 1)) :
    mw (G2.2.1 (F a 1)) 0 = mw (G.2.1 (F a 1)) 0 := by
  rw [c_G2_F_a_1]
theorem v_X11_wouldSet_23_12 {F : Nat → Nat → Nat} (G : XG) (a : Nat) (G2 : XG)
    (hM : RM (G.2.1 (F a 1)) (0))
    (c_G2_F_a_1 : G2.2.1 (F a 1) = G.2.1 (F a 1)) :
    RM (G2.2.1 (F a 1)) 0 := by
  rw [c_G2_F_a_1]; exact hM
theorem v_X11_wouldSet_23_13 {K : Nat → Nat} {F : Nat → Nat → Nat} (a : Nat) (G : XG) (x11 : Int32) (p0 : Int32) (p1 : Int32) (p2 : Int32) (p3 : Int32)
    (ha : K a = 13)
    (oq11 : x11.toInt = whyS (mw (G.2.1 (F a 1)) 0) p0.toInt p1.toInt p2.toInt p3.toInt)
    (c18 : ¬ (x11.toInt = 0)) :
    (whyS (mw (G.2.1 (F a 1)) 0) p0.toInt p1.toInt p2.toInt p3.toInt ≠ 0 ∧ x11.toInt = whyS (mw (G.2.1 (F a 1)) 0) p0.toInt p1.toInt p2.toInt p3.toInt) ∨ (whyS (mw (G.2.1 (F a 1)) 0) p0.toInt p1.toInt p2.toInt p3.toInt = 0 ∧ AnsM ((G.1 a 6).toInt) x11.toInt (G.2.1 (F a 10)) (mw (G.2.1 (F a 1)) 0) (rset (mw (G.2.1 (F a 1)) 0) (90 * p0.toInt + 30 * p2.toInt + p1.toInt) p3.toInt)) := by
  exact Or.inl ⟨by omega, by omega⟩
theorem v_X11_depth_38_1 {K : Nat → Nat} {F : Nat → Nat → Nat} (a : Nat) (G : XG) (x7 : Int32) (p0 : Int32) (p1 : Int32)
    (ha : K a = 13)
    (t7 : (x7.toInt = 1 ∧ 0 ≤ p0.toInt ∧ p0.toInt ≤ 11 ∧ (aI (G.2.1 (F a 10)) (10 * p0.toInt + 0)) ≠ -1) ∨ (x7.toInt = 0 ∧ (¬ (0 ≤ p0.toInt ∧ p0.toInt ≤ 11) ∨ (aI (G.2.1 (F a 10)) (10 * p0.toInt + 0)) = -1)))
    (c10 : x7.toInt = 0) :
    (¬ (0 ≤ p0.toInt ∧ p0.toInt ≤ 11 ∧ aI (G.2.1 (F a 10)) (10 * p0.toInt + 0) ≠ -1) ∧ (-1 : Int) = -1) ∨ ((0 ≤ p0.toInt ∧ p0.toInt ≤ 11 ∧ aI (G.2.1 (F a 10)) (10 * p0.toInt + 0) ≠ -1) ∧ (-1 : Int) = dpS (mw (G.2.1 (F a 1)) 0) (aI (G.2.1 (F a 10)) (10 * p0.toInt + 0)) (aI (G.2.1 (F a 10)) (10 * p0.toInt + 1)) (aI (G.2.1 (F a 10)) (10 * p0.toInt + 2)) p1.toInt) := by
  first
    | exact Or.inl ⟨by omega, rfl⟩
    | exact Or.inr ⟨by omega, (dpS_n (by omega)).symm⟩
theorem v_X11_depth_38_2 {K : Nat → Nat} {F : Nat → Nat → Nat} (a : Nat) (G : XG) (p0 : Int32) (x7 : Int32) (p1 : Int32)
    (ha : K a = 13)
    (t7 : (x7.toInt = 1 ∧ 0 ≤ p0.toInt ∧ p0.toInt ≤ 11 ∧ (aI (G.2.1 (F a 10)) (10 * p0.toInt + 0)) ≠ -1) ∨ (x7.toInt = 0 ∧ (¬ (0 ≤ p0.toInt ∧ p0.toInt ≤ 11) ∨ (aI (G.2.1 (F a 10)) (10 * p0.toInt + 0)) = -1)))
    (c10 : ¬ (x7.toInt = 0))
    (z13 : (-1 ≤ (aI (G.2.1 (F a 10)) (10 * p0.toInt + 0)) ∧ (aI (G.2.1 (F a 10)) (10 * p0.toInt + 0)) ≤ 5) ∧ (0 ≤ (aI (G.2.1 (F a 10)) (10 * p0.toInt + 1)) ∧ (aI (G.2.1 (F a 10)) (10 * p0.toInt + 1)) ≤ 2) ∧ (0 ≤ (aI (G.2.1 (F a 10)) (10 * p0.toInt + 2)) ∧ (aI (G.2.1 (F a 10)) (10 * p0.toInt + 2)) ≤ 2) ∧ (-1 ≤ (aI (G.2.1 (F a 10)) (10 * p0.toInt + 3)) ∧ (aI (G.2.1 (F a 10)) (10 * p0.toInt + 3)) ≤ 2) ∧ ((aI (G.2.1 (F a 10)) (10 * p0.toInt + 0)) = 1 ∨ (aI (G.2.1 (F a 10)) (10 * p0.toInt + 0)) = 3 ∨ (aI (G.2.1 (F a 10)) (10 * p0.toInt + 0)) = 4 → 0 ≤ (aI (G.2.1 (F a 10)) (10 * p0.toInt + 3))))
    (c20 : (aI (G.2.1 (F a 10)) (10 * p0.toInt + 0)) ≠ (5 : Int)) :
    (¬ (0 ≤ p0.toInt ∧ p0.toInt ≤ 11 ∧ aI (G.2.1 (F a 10)) (10 * p0.toInt + 0) ≠ -1) ∧ (-1 : Int) = -1) ∨ ((0 ≤ p0.toInt ∧ p0.toInt ≤ 11 ∧ aI (G.2.1 (F a 10)) (10 * p0.toInt + 0) ≠ -1) ∧ (-1 : Int) = dpS (mw (G.2.1 (F a 1)) 0) (aI (G.2.1 (F a 10)) (10 * p0.toInt + 0)) (aI (G.2.1 (F a 10)) (10 * p0.toInt + 1)) (aI (G.2.1 (F a 10)) (10 * p0.toInt + 2)) p1.toInt) := by
  first
    | exact Or.inl ⟨by omega, rfl⟩
    | exact Or.inr ⟨by omega, (dpS_n (by omega)).symm⟩
theorem v_X11_depth_31_3 {F : Nat → Nat → Nat} (a : Nat) (G2 : XG) (G : XG)
    (hM : RM (G.2.1 (F a 1)) (0))
    (c_G2_F_a_1 : G2.2.1 (F a 1) = G.2.1 (F a 1)) :
    RM (G2.2.1 (F a 1)) 0 := by simp only [c_G2_F_a_1]; assumption
theorem v_X11_depth_106_4 {K : Nat → Nat} {F : Nat → Nat → Nat} (a : Nat) (G : XG) (p0 : Int32) (p1 : Int32) (l3_44 : Int32) (l4_44 : Int32) (x7 : Int32) (x31 : Int32) (N44 : Nat)
    (ha : K a = 13)
    (dp : dpF (mw (G.2.1 (F a 1)) 0) (aI (G.2.1 (F a 10)) (10 * p0.toInt + 1)) (aI (G.2.1 (F a 10)) (10 * p0.toInt + 2)) 31 0 (p1.toInt) = dpF (mw (G.2.1 (F a 1)) 0) (aI (G.2.1 (F a 10)) (10 * p0.toInt + 1)) (aI (G.2.1 (F a 10)) (10 * p0.toInt + 2)) (31 - l3_44.toInt).toNat (l3_44.toInt) (l4_44.toInt))
    (t7 : (x7.toInt = 1 ∧ 0 ≤ p0.toInt ∧ p0.toInt ≤ 11 ∧ (aI (G.2.1 (F a 10)) (10 * p0.toInt + 0)) ≠ -1) ∨ (x7.toInt = 0 ∧ (¬ (0 ≤ p0.toInt ∧ p0.toInt ≤ 11) ∨ (aI (G.2.1 (F a 10)) (10 * p0.toInt + 0)) = -1)))
    (c10 : ¬ (x7.toInt = 0))
    (z13 : (-1 ≤ (aI (G.2.1 (F a 10)) (10 * p0.toInt + 0)) ∧ (aI (G.2.1 (F a 10)) (10 * p0.toInt + 0)) ≤ 5) ∧ (0 ≤ (aI (G.2.1 (F a 10)) (10 * p0.toInt + 1)) ∧ (aI (G.2.1 (F a 10)) (10 * p0.toInt + 1)) ≤ 2) ∧ (0 ≤ (aI (G.2.1 (F a 10)) (10 * p0.toInt + 2)) ∧ (aI (G.2.1 (F a 10)) (10 * p0.toInt + 2)) ≤ 2) ∧ (-1 ≤ (aI (G.2.1 (F a 10)) (10 * p0.toInt + 3)) ∧ (aI (G.2.1 (F a 10)) (10 * p0.toInt + 3)) ≤ 2) ∧ ((aI (G.2.1 (F a 10)) (10 * p0.toInt + 0)) = 1 ∨ (aI (G.2.1 (F a 10)) (10 * p0.toInt + 0)) = 3 ∨ (aI (G.2.1 (F a 10)) (10 * p0.toInt + 0)) = 4 → 0 ≤ (aI (G.2.1 (F a 10)) (10 * p0.toInt + 3))))
    (c20 : ¬ ((aI (G.2.1 (F a 10)) (10 * p0.toInt + 0)) ≠ (5 : Int)))
    (t31 : (x31.toInt = 1 ∧ (cel (mw (G.2.1 (F a 1)) 0) (aI (G.2.1 (F a 10)) (10 * p0.toInt + 1)) (p1.toInt) 0) ≠ -2000) ∨ (x31.toInt = 0 ∧ (cel (mw (G.2.1 (F a 1)) 0) (aI (G.2.1 (F a 10)) (10 * p0.toInt + 1)) (p1.toInt) 0) = -2000))
    (c34 : x31.toInt ≠ 0)
    (z39 : ¬ (0 ≤ (aI (G.2.1 (F a 10)) (10 * p0.toInt + 1)) ∧ (aI (G.2.1 (F a 10)) (10 * p0.toInt + 1)) < 3 ∧ 0 ≤ p1.toInt ∧ p1.toInt < 30) → (cel (mw (G.2.1 (F a 1)) 0) (aI (G.2.1 (F a 10)) (10 * p0.toInt + 1)) (p1.toInt) 0) = -2000)
    (I44_0 : 0 ≤ l3_44.toInt ∧ l3_44.toInt ≤ 31)
    (I44_1 : 0 ≤ l4_44.toInt ∧ l4_44.toInt < 30)
    (I44_2 : (cel (mw (G.2.1 (F a 1)) 0) (aI (G.2.1 (F a 10)) (10 * p0.toInt + 1)) (l4_44.toInt) 0) ≠ -2000)
    (hm44 : 100 - l3_44.toInt < (((N44) + 1 : Nat) : Int))
    (c47 : (30 : Int) < l3_44.toInt) :
    (¬ (0 ≤ p0.toInt ∧ p0.toInt ≤ 11 ∧ aI (G.2.1 (F a 10)) (10 * p0.toInt + 0) ≠ -1) ∧ (-2 : Int) = -1) ∨ ((0 ≤ p0.toInt ∧ p0.toInt ≤ 11 ∧ aI (G.2.1 (F a 10)) (10 * p0.toInt + 0) ≠ -1) ∧ (-2 : Int) = dpS (mw (G.2.1 (F a 1)) 0) (aI (G.2.1 (F a 10)) (10 * p0.toInt + 0)) (aI (G.2.1 (F a 10)) (10 * p0.toInt + 1)) (aI (G.2.1 (F a 10)) (10 * p0.toInt + 2)) p1.toInt) := by
  have e : (31 - l3_44.toInt).toNat = 0 := by omega
  rw [e] at dp
  exact Or.inr ⟨by omega, ((dpS_i (by omega)).trans dp).symm⟩
theorem v_X11_depth_86_5 {F : Nat → Nat → Nat} (a : Nat) (G2 : XG) (G : XG)
    (hM : RM (G.2.1 (F a 1)) (0))
    (c_G2_F_a_1 : G2.2.1 (F a 1) = G.2.1 (F a 1)) :
    RM (G2.2.1 (F a 1)) 0 := by simp only [c_G2_F_a_1]; assumption
theorem v_X11_depth_101_6 {K : Nat → Nat} {F : Nat → Nat → Nat} (a : Nat) (G : XG) (p0 : Int32) (p1 : Int32) (l3_44 : Int32) (l4_44 : Int32) (x7 : Int32) (x31 : Int32) (N44 : Nat) (x62 : Int32) (x86 : Int32)
    (ha : K a = 13)
    (dp : dpF (mw (G.2.1 (F a 1)) 0) (aI (G.2.1 (F a 10)) (10 * p0.toInt + 1)) (aI (G.2.1 (F a 10)) (10 * p0.toInt + 2)) 31 0 (p1.toInt) = dpF (mw (G.2.1 (F a 1)) 0) (aI (G.2.1 (F a 10)) (10 * p0.toInt + 1)) (aI (G.2.1 (F a 10)) (10 * p0.toInt + 2)) (31 - l3_44.toInt).toNat (l3_44.toInt) (l4_44.toInt))
    (t7 : (x7.toInt = 1 ∧ 0 ≤ p0.toInt ∧ p0.toInt ≤ 11 ∧ (aI (G.2.1 (F a 10)) (10 * p0.toInt + 0)) ≠ -1) ∨ (x7.toInt = 0 ∧ (¬ (0 ≤ p0.toInt ∧ p0.toInt ≤ 11) ∨ (aI (G.2.1 (F a 10)) (10 * p0.toInt + 0)) = -1)))
    (c10 : ¬ (x7.toInt = 0))
    (z13 : (-1 ≤ (aI (G.2.1 (F a 10)) (10 * p0.toInt + 0)) ∧ (aI (G.2.1 (F a 10)) (10 * p0.toInt + 0)) ≤ 5) ∧ (0 ≤ (aI (G.2.1 (F a 10)) (10 * p0.toInt + 1)) ∧ (aI (G.2.1 (F a 10)) (10 * p0.toInt + 1)) ≤ 2) ∧ (0 ≤ (aI (G.2.1 (F a 10)) (10 * p0.toInt + 2)) ∧ (aI (G.2.1 (F a 10)) (10 * p0.toInt + 2)) ≤ 2) ∧ (-1 ≤ (aI (G.2.1 (F a 10)) (10 * p0.toInt + 3)) ∧ (aI (G.2.1 (F a 10)) (10 * p0.toInt + 3)) ≤ 2) ∧ ((aI (G.2.1 (F a 10)) (10 * p0.toInt + 0)) = 1 ∨ (aI (G.2.1 (F a 10)) (10 * p0.toInt + 0)) = 3 ∨ (aI (G.2.1 (F a 10)) (10 * p0.toInt + 0)) = 4 → 0 ≤ (aI (G.2.1 (F a 10)) (10 * p0.toInt + 3))))
    (c20 : ¬ ((aI (G.2.1 (F a 10)) (10 * p0.toInt + 0)) ≠ (5 : Int)))
    (t31 : (x31.toInt = 1 ∧ (cel (mw (G.2.1 (F a 1)) 0) (aI (G.2.1 (F a 10)) (10 * p0.toInt + 1)) (p1.toInt) 0) ≠ -2000) ∨ (x31.toInt = 0 ∧ (cel (mw (G.2.1 (F a 1)) 0) (aI (G.2.1 (F a 10)) (10 * p0.toInt + 1)) (p1.toInt) 0) = -2000))
    (c34 : x31.toInt ≠ 0)
    (z39 : ¬ (0 ≤ (aI (G.2.1 (F a 10)) (10 * p0.toInt + 1)) ∧ (aI (G.2.1 (F a 10)) (10 * p0.toInt + 1)) < 3 ∧ 0 ≤ p1.toInt ∧ p1.toInt < 30) → (cel (mw (G.2.1 (F a 1)) 0) (aI (G.2.1 (F a 10)) (10 * p0.toInt + 1)) (p1.toInt) 0) = -2000)
    (I44_0 : 0 ≤ l3_44.toInt ∧ l3_44.toInt ≤ 31)
    (I44_1 : 0 ≤ l4_44.toInt ∧ l4_44.toInt < 30)
    (I44_2 : (cel (mw (G.2.1 (F a 1)) 0) (aI (G.2.1 (F a 10)) (10 * p0.toInt + 1)) (l4_44.toInt) 0) ≠ -2000)
    (hm44 : 100 - l3_44.toInt < (((N44) + 1 : Nat) : Int))
    (c47 : ¬ ((30 : Int) < l3_44.toInt))
    (t62 : 0 ≤ (aI (G.2.1 (F a 10)) (10 * p0.toInt + 1)) ∧ (aI (G.2.1 (F a 10)) (10 * p0.toInt + 1)) ≤ 2 ∧ 0 ≤ l4_44.toInt ∧ l4_44.toInt ≤ 29 → x62.toInt = 4 * (30 * (aI (G.2.1 (F a 10)) (10 * p0.toInt + 1)) + l4_44.toInt))
    (z77 : (aI (G.2.1 (F a 1)) (4 * (30 * (aI (G.2.1 (F a 10)) (10 * p0.toInt + 1)) + l4_44.toInt) + 1 + (aI (G.2.1 (F a 10)) (10 * p0.toInt + 2)))) = (cel (mw (G.2.1 (F a 1)) 0) (aI (G.2.1 (F a 10)) (10 * p0.toInt + 1)) (l4_44.toInt) (aI (G.2.1 (F a 10)) (10 * p0.toInt + 2))))
    (t86 : (x86.toInt = 1 ∧ (cel (mw (G.2.1 (F a 1)) 0) (aI (G.2.1 (F a 10)) (10 * p0.toInt + 1)) (aI (G.2.1 (F a 1)) (4 * (30 * (aI (G.2.1 (F a 10)) (10 * p0.toInt + 1)) + l4_44.toInt) + 1 + (aI (G.2.1 (F a 10)) (10 * p0.toInt + 2)))) 0) ≠ -2000) ∨ (x86.toInt = 0 ∧ (cel (mw (G.2.1 (F a 1)) 0) (aI (G.2.1 (F a 10)) (10 * p0.toInt + 1)) (aI (G.2.1 (F a 1)) (4 * (30 * (aI (G.2.1 (F a 10)) (10 * p0.toInt + 1)) + l4_44.toInt) + 1 + (aI (G.2.1 (F a 10)) (10 * p0.toInt + 2)))) 0) = -2000))
    (z89 : ¬ (0 ≤ (aI (G.2.1 (F a 10)) (10 * p0.toInt + 1)) ∧ (aI (G.2.1 (F a 10)) (10 * p0.toInt + 1)) < 3 ∧ 0 ≤ (aI (G.2.1 (F a 1)) (4 * (30 * (aI (G.2.1 (F a 10)) (10 * p0.toInt + 1)) + l4_44.toInt) + 1 + (aI (G.2.1 (F a 10)) (10 * p0.toInt + 2)))) ∧ (aI (G.2.1 (F a 1)) (4 * (30 * (aI (G.2.1 (F a 10)) (10 * p0.toInt + 1)) + l4_44.toInt) + 1 + (aI (G.2.1 (F a 10)) (10 * p0.toInt + 2)))) < 30) → (cel (mw (G.2.1 (F a 1)) 0) (aI (G.2.1 (F a 10)) (10 * p0.toInt + 1)) (aI (G.2.1 (F a 1)) (4 * (30 * (aI (G.2.1 (F a 10)) (10 * p0.toInt + 1)) + l4_44.toInt) + 1 + (aI (G.2.1 (F a 10)) (10 * p0.toInt + 2)))) 0) = -2000)
    (c89 : x86.toInt ≠ 0) :
    dpF (mw (G.2.1 (F a 1)) 0) (aI (G.2.1 (F a 10)) (10 * p0.toInt + 1)) (aI (G.2.1 (F a 10)) (10 * p0.toInt + 2)) 31 0 (p1.toInt) = dpF (mw (G.2.1 (F a 1)) 0) (aI (G.2.1 (F a 10)) (10 * p0.toInt + 1)) (aI (G.2.1 (F a 10)) (10 * p0.toInt + 2)) (31 - (l3_44.toInt + 1)).toNat (l3_44.toInt + 1) ((aI (G.2.1 (F a 1)) (4 * (30 * (aI (G.2.1 (F a 10)) (10 * p0.toInt + 1)) + l4_44.toInt) + 1 + (aI (G.2.1 (F a 10)) (10 * p0.toInt + 2))))) := by
  have e : (31 - l3_44.toInt).toNat = (31 - (l3_44.toInt + 1)).toNat + 1 := by omega
  rw [e] at dp
  rw [z77] at t86 ⊢
  exact dp.trans (dpF_s (by omega))
theorem v_X11_depth_93_7 {K : Nat → Nat} {F : Nat → Nat → Nat} (a : Nat) (G : XG) (p0 : Int32) (p1 : Int32) (l3_44 : Int32) (l4_44 : Int32) (x7 : Int32) (x31 : Int32) (N44 : Nat) (x62 : Int32) (x86 : Int32)
    (ha : K a = 13)
    (dp : dpF (mw (G.2.1 (F a 1)) 0) (aI (G.2.1 (F a 10)) (10 * p0.toInt + 1)) (aI (G.2.1 (F a 10)) (10 * p0.toInt + 2)) 31 0 (p1.toInt) = dpF (mw (G.2.1 (F a 1)) 0) (aI (G.2.1 (F a 10)) (10 * p0.toInt + 1)) (aI (G.2.1 (F a 10)) (10 * p0.toInt + 2)) (31 - l3_44.toInt).toNat (l3_44.toInt) (l4_44.toInt))
    (t7 : (x7.toInt = 1 ∧ 0 ≤ p0.toInt ∧ p0.toInt ≤ 11 ∧ (aI (G.2.1 (F a 10)) (10 * p0.toInt + 0)) ≠ -1) ∨ (x7.toInt = 0 ∧ (¬ (0 ≤ p0.toInt ∧ p0.toInt ≤ 11) ∨ (aI (G.2.1 (F a 10)) (10 * p0.toInt + 0)) = -1)))
    (c10 : ¬ (x7.toInt = 0))
    (z13 : (-1 ≤ (aI (G.2.1 (F a 10)) (10 * p0.toInt + 0)) ∧ (aI (G.2.1 (F a 10)) (10 * p0.toInt + 0)) ≤ 5) ∧ (0 ≤ (aI (G.2.1 (F a 10)) (10 * p0.toInt + 1)) ∧ (aI (G.2.1 (F a 10)) (10 * p0.toInt + 1)) ≤ 2) ∧ (0 ≤ (aI (G.2.1 (F a 10)) (10 * p0.toInt + 2)) ∧ (aI (G.2.1 (F a 10)) (10 * p0.toInt + 2)) ≤ 2) ∧ (-1 ≤ (aI (G.2.1 (F a 10)) (10 * p0.toInt + 3)) ∧ (aI (G.2.1 (F a 10)) (10 * p0.toInt + 3)) ≤ 2) ∧ ((aI (G.2.1 (F a 10)) (10 * p0.toInt + 0)) = 1 ∨ (aI (G.2.1 (F a 10)) (10 * p0.toInt + 0)) = 3 ∨ (aI (G.2.1 (F a 10)) (10 * p0.toInt + 0)) = 4 → 0 ≤ (aI (G.2.1 (F a 10)) (10 * p0.toInt + 3))))
    (c20 : ¬ ((aI (G.2.1 (F a 10)) (10 * p0.toInt + 0)) ≠ (5 : Int)))
    (t31 : (x31.toInt = 1 ∧ (cel (mw (G.2.1 (F a 1)) 0) (aI (G.2.1 (F a 10)) (10 * p0.toInt + 1)) (p1.toInt) 0) ≠ -2000) ∨ (x31.toInt = 0 ∧ (cel (mw (G.2.1 (F a 1)) 0) (aI (G.2.1 (F a 10)) (10 * p0.toInt + 1)) (p1.toInt) 0) = -2000))
    (c34 : x31.toInt ≠ 0)
    (z39 : ¬ (0 ≤ (aI (G.2.1 (F a 10)) (10 * p0.toInt + 1)) ∧ (aI (G.2.1 (F a 10)) (10 * p0.toInt + 1)) < 3 ∧ 0 ≤ p1.toInt ∧ p1.toInt < 30) → (cel (mw (G.2.1 (F a 1)) 0) (aI (G.2.1 (F a 10)) (10 * p0.toInt + 1)) (p1.toInt) 0) = -2000)
    (I44_0 : 0 ≤ l3_44.toInt ∧ l3_44.toInt ≤ 31)
    (I44_1 : 0 ≤ l4_44.toInt ∧ l4_44.toInt < 30)
    (I44_2 : (cel (mw (G.2.1 (F a 1)) 0) (aI (G.2.1 (F a 10)) (10 * p0.toInt + 1)) (l4_44.toInt) 0) ≠ -2000)
    (hm44 : 100 - l3_44.toInt < (((N44) + 1 : Nat) : Int))
    (c47 : ¬ ((30 : Int) < l3_44.toInt))
    (t62 : 0 ≤ (aI (G.2.1 (F a 10)) (10 * p0.toInt + 1)) ∧ (aI (G.2.1 (F a 10)) (10 * p0.toInt + 1)) ≤ 2 ∧ 0 ≤ l4_44.toInt ∧ l4_44.toInt ≤ 29 → x62.toInt = 4 * (30 * (aI (G.2.1 (F a 10)) (10 * p0.toInt + 1)) + l4_44.toInt))
    (z77 : (aI (G.2.1 (F a 1)) (4 * (30 * (aI (G.2.1 (F a 10)) (10 * p0.toInt + 1)) + l4_44.toInt) + 1 + (aI (G.2.1 (F a 10)) (10 * p0.toInt + 2)))) = (cel (mw (G.2.1 (F a 1)) 0) (aI (G.2.1 (F a 10)) (10 * p0.toInt + 1)) (l4_44.toInt) (aI (G.2.1 (F a 10)) (10 * p0.toInt + 2))))
    (t86 : (x86.toInt = 1 ∧ (cel (mw (G.2.1 (F a 1)) 0) (aI (G.2.1 (F a 10)) (10 * p0.toInt + 1)) (aI (G.2.1 (F a 1)) (4 * (30 * (aI (G.2.1 (F a 10)) (10 * p0.toInt + 1)) + l4_44.toInt) + 1 + (aI (G.2.1 (F a 10)) (10 * p0.toInt + 2)))) 0) ≠ -2000) ∨ (x86.toInt = 0 ∧ (cel (mw (G.2.1 (F a 1)) 0) (aI (G.2.1 (F a 10)) (10 * p0.toInt + 1)) (aI (G.2.1 (F a 1)) (4 * (30 * (aI (G.2.1 (F a 10)) (10 * p0.toInt + 1)) + l4_44.toInt) + 1 + (aI (G.2.1 (F a 10)) (10 * p0.toInt + 2)))) 0) = -2000))
    (z89 : ¬ (0 ≤ (aI (G.2.1 (F a 10)) (10 * p0.toInt + 1)) ∧ (aI (G.2.1 (F a 10)) (10 * p0.toInt + 1)) < 3 ∧ 0 ≤ (aI (G.2.1 (F a 1)) (4 * (30 * (aI (G.2.1 (F a 10)) (10 * p0.toInt + 1)) + l4_44.toInt) + 1 + (aI (G.2.1 (F a 10)) (10 * p0.toInt + 2)))) ∧ (aI (G.2.1 (F a 1)) (4 * (30 * (aI (G.2.1 (F a 10)) (10 * p0.toInt + 1)) + l4_44.toInt) + 1 + (aI (G.2.1 (F a 10)) (10 * p0.toInt + 2)))) < 30) → (cel (mw (G.2.1 (F a 1)) 0) (aI (G.2.1 (F a 10)) (10 * p0.toInt + 1)) (aI (G.2.1 (F a 1)) (4 * (30 * (aI (G.2.1 (F a 10)) (10 * p0.toInt + 1)) + l4_44.toInt) + 1 + (aI (G.2.1 (F a 10)) (10 * p0.toInt + 2)))) 0) = -2000)
    (c89 : ¬ (x86.toInt ≠ 0)) :
    (¬ (0 ≤ p0.toInt ∧ p0.toInt ≤ 11 ∧ aI (G.2.1 (F a 10)) (10 * p0.toInt + 0) ≠ -1) ∧ l3_44.toInt = -1) ∨ ((0 ≤ p0.toInt ∧ p0.toInt ≤ 11 ∧ aI (G.2.1 (F a 10)) (10 * p0.toInt + 0) ≠ -1) ∧ l3_44.toInt = dpS (mw (G.2.1 (F a 1)) 0) (aI (G.2.1 (F a 10)) (10 * p0.toInt + 0)) (aI (G.2.1 (F a 10)) (10 * p0.toInt + 1)) (aI (G.2.1 (F a 10)) (10 * p0.toInt + 2)) p1.toInt) := by
  have e : (31 - l3_44.toInt).toNat = (30 - l3_44.toInt).toNat + 1 := by omega
  rw [e] at dp
  rw [z77] at t86
  exact Or.inr ⟨by omega, ((dpS_i (by omega)).trans (dp.trans (dpF_o (by omega)))).symm⟩
theorem v_X11_depth_42_8 {F : Nat → Nat → Nat} (a : Nat) (G : XG) (p0 : Int32) (p1 : Int32) :
    dpF (mw (G.2.1 (F a 1)) 0) (aI (G.2.1 (F a 10)) (10 * p0.toInt + 1)) (aI (G.2.1 (F a 10)) (10 * p0.toInt + 2)) 31 0 (p1.toInt) = dpF (mw (G.2.1 (F a 1)) 0) (aI (G.2.1 (F a 10)) (10 * p0.toInt + 1)) (aI (G.2.1 (F a 10)) (10 * p0.toInt + 2)) (31 - (0 : Int)).toNat (0 : Int) (p1.toInt) := by
  have e : ((31 : Int) - (0 : Int)).toNat = 31 := by decide
  rw [e]
theorem v_X11_depth_38_9 {K : Nat → Nat} {F : Nat → Nat → Nat} (a : Nat) (G : XG) (p0 : Int32) (x7 : Int32) (x31 : Int32) (p1 : Int32)
    (ha : K a = 13)
    (t7 : (x7.toInt = 1 ∧ 0 ≤ p0.toInt ∧ p0.toInt ≤ 11 ∧ (aI (G.2.1 (F a 10)) (10 * p0.toInt + 0)) ≠ -1) ∨ (x7.toInt = 0 ∧ (¬ (0 ≤ p0.toInt ∧ p0.toInt ≤ 11) ∨ (aI (G.2.1 (F a 10)) (10 * p0.toInt + 0)) = -1)))
    (c10 : ¬ (x7.toInt = 0))
    (z13 : (-1 ≤ (aI (G.2.1 (F a 10)) (10 * p0.toInt + 0)) ∧ (aI (G.2.1 (F a 10)) (10 * p0.toInt + 0)) ≤ 5) ∧ (0 ≤ (aI (G.2.1 (F a 10)) (10 * p0.toInt + 1)) ∧ (aI (G.2.1 (F a 10)) (10 * p0.toInt + 1)) ≤ 2) ∧ (0 ≤ (aI (G.2.1 (F a 10)) (10 * p0.toInt + 2)) ∧ (aI (G.2.1 (F a 10)) (10 * p0.toInt + 2)) ≤ 2) ∧ (-1 ≤ (aI (G.2.1 (F a 10)) (10 * p0.toInt + 3)) ∧ (aI (G.2.1 (F a 10)) (10 * p0.toInt + 3)) ≤ 2) ∧ ((aI (G.2.1 (F a 10)) (10 * p0.toInt + 0)) = 1 ∨ (aI (G.2.1 (F a 10)) (10 * p0.toInt + 0)) = 3 ∨ (aI (G.2.1 (F a 10)) (10 * p0.toInt + 0)) = 4 → 0 ≤ (aI (G.2.1 (F a 10)) (10 * p0.toInt + 3))))
    (c20 : ¬ ((aI (G.2.1 (F a 10)) (10 * p0.toInt + 0)) ≠ (5 : Int)))
    (t31 : (x31.toInt = 1 ∧ (cel (mw (G.2.1 (F a 1)) 0) (aI (G.2.1 (F a 10)) (10 * p0.toInt + 1)) (p1.toInt) 0) ≠ -2000) ∨ (x31.toInt = 0 ∧ (cel (mw (G.2.1 (F a 1)) 0) (aI (G.2.1 (F a 10)) (10 * p0.toInt + 1)) (p1.toInt) 0) = -2000))
    (c34 : ¬ (x31.toInt ≠ 0)) :
    (¬ (0 ≤ p0.toInt ∧ p0.toInt ≤ 11 ∧ aI (G.2.1 (F a 10)) (10 * p0.toInt + 0) ≠ -1) ∧ (-1 : Int) = -1) ∨ ((0 ≤ p0.toInt ∧ p0.toInt ≤ 11 ∧ aI (G.2.1 (F a 10)) (10 * p0.toInt + 0) ≠ -1) ∧ (-1 : Int) = dpS (mw (G.2.1 (F a 1)) 0) (aI (G.2.1 (F a 10)) (10 * p0.toInt + 0)) (aI (G.2.1 (F a 10)) (10 * p0.toInt + 1)) (aI (G.2.1 (F a 10)) (10 * p0.toInt + 2)) p1.toInt) := by
  first
    | exact Or.inl ⟨by omega, rfl⟩
    | exact Or.inr ⟨by omega, (dpS_n (by omega)).symm⟩
theorem v_X11_leansOn_117_1 {K : Nat → Nat} {F : Nat → Nat → Nat} (a : Nat) (G : XG) (l5_6 : Int32) (l6_6 : Int32) (p0 : Int32) (p1 : Int32) (p2 : Int32) (p3 : Int32) (N6 : Nat)
    (ha : K a = 13)
    (hR : RV (G.2.1 (F a 10)))
    (hM : RM (G.2.1 (F a 1)) (0))
    (pl : (l5_6.toInt = 1 ∧ lnR (G.2.1 (F a 10)) (G.2.1 (F a 1)) l6_6.toInt p0.toInt p1.toInt p2.toInt p3.toInt) ∨ (l5_6.toInt = 0 ∧ ¬ lnR (G.2.1 (F a 10)) (G.2.1 (F a 1)) l6_6.toInt p0.toInt p1.toInt p2.toInt p3.toInt))
    (e0 : 0 ≤ p0.toInt ∧ p0.toInt < 3 ∧ 0 ≤ p1.toInt ∧ p1.toInt < 30)
    (e1 : 0 ≤ p3.toInt ∧ p3.toInt < 30)
    (I6_0 : 0 ≤ l6_6.toInt ∧ l6_6.toInt ≤ 12)
    (hm6 : 100 - l6_6.toInt < (((N6) + 1 : Nat) : Int))
    (c10 : (12 : Int) ≤ l6_6.toInt)
    (c100 : l5_6.toInt = 0) :
    ((0 : Int) = 1 ∧ lnM (G.2.1 (F a 10)) (mw (G.2.1 (F a 1)) 0) 12 p0.toInt p1.toInt p2.toInt p3.toInt) ∨ ((0 : Int) = 0 ∧ ¬ lnM (G.2.1 (F a 10)) (mw (G.2.1 (F a 1)) 0) 12 p0.toInt p1.toInt p2.toInt p3.toInt) := by
  have e12 : l6_6.toInt = 12 := by omega
  rw [e12] at pl
  rcases pl with ⟨a1, a2⟩ | ⟨a1, a2⟩
  · first
      | (exfalso; omega)
      | exact Or.inl ⟨rfl, lnR_M hR hM ⟨by omega, by omega⟩ (by decide) (by omega) a2⟩
      | exact Or.inr ⟨rfl, lnM_no hM (by omega) (by omega)⟩
  · first
      | (exfalso; omega)
      | exact Or.inr ⟨rfl, fun h => a2 (lnM_R hR hM ⟨by omega, by omega⟩ (by decide) (by omega) h)⟩
theorem v_X11_leansOn_106_2 {K : Nat → Nat} {F : Nat → Nat → Nat} (a : Nat) (G : XG) (l5_6 : Int32) (l6_6 : Int32) (p0 : Int32) (p1 : Int32) (p2 : Int32) (p3 : Int32) (N6 : Nat)
    (ha : K a = 13)
    (hk9999 : K (F a 10) = 37)
    (hj9999 : F (F a 10) 99 = 10)
    (hk9999a : K (F a 1) = 30)
    (hj9999a : F (F a 1) 99 = 1)
    (hR : RV (G.2.1 (F a 10)))
    (hM : RM (G.2.1 (F a 1)) (0))
    (pl : (l5_6.toInt = 1 ∧ lnR (G.2.1 (F a 10)) (G.2.1 (F a 1)) l6_6.toInt p0.toInt p1.toInt p2.toInt p3.toInt) ∨ (l5_6.toInt = 0 ∧ ¬ lnR (G.2.1 (F a 10)) (G.2.1 (F a 1)) l6_6.toInt p0.toInt p1.toInt p2.toInt p3.toInt))
    (e0 : 0 ≤ p0.toInt ∧ p0.toInt < 3 ∧ 0 ≤ p1.toInt ∧ p1.toInt < 30)
    (e1 : 0 ≤ p3.toInt ∧ p3.toInt < 30)
    (I6_0 : 0 ≤ l6_6.toInt ∧ l6_6.toInt ≤ 12)
    (hm6 : 100 - l6_6.toInt < (((N6) + 1 : Nat) : Int))
    (c10 : (12 : Int) ≤ l6_6.toInt)
    (c100 : ¬ (l5_6.toInt = 0)) :
    RM (G.2.1 (F a 1)) 0 := by
  first | assumption | omega
theorem v_X11_leansOn_117_3 {K : Nat → Nat} {F : Nat → Nat → Nat} (a : Nat) (G : XG) (l5_6 : Int32) (l6_6 : Int32) (p0 : Int32) (p1 : Int32) (p2 : Int32) (p3 : Int32) (N6 : Nat) (x106 : Int32)
    (ha : K a = 13)
    (hR : RV (G.2.1 (F a 10)))
    (hM : RM (G.2.1 (F a 1)) (0))
    (pl : (l5_6.toInt = 1 ∧ lnR (G.2.1 (F a 10)) (G.2.1 (F a 1)) l6_6.toInt p0.toInt p1.toInt p2.toInt p3.toInt) ∨ (l5_6.toInt = 0 ∧ ¬ lnR (G.2.1 (F a 10)) (G.2.1 (F a 1)) l6_6.toInt p0.toInt p1.toInt p2.toInt p3.toInt))
    (e0 : 0 ≤ p0.toInt ∧ p0.toInt < 3 ∧ 0 ≤ p1.toInt ∧ p1.toInt < 30)
    (e1 : 0 ≤ p3.toInt ∧ p3.toInt < 30)
    (I6_0 : 0 ≤ l6_6.toInt ∧ l6_6.toInt ≤ 12)
    (hm6 : 100 - l6_6.toInt < (((N6) + 1 : Nat) : Int))
    (c10 : (12 : Int) ≤ l6_6.toInt)
    (c100 : ¬ (l5_6.toInt = 0))
    (t106 : (x106.toInt = 1 ∧ (cel (mw (G.2.1 (F a 1)) 0) (p0.toInt) (p1.toInt) 0) ≠ -2000) ∨ (x106.toInt = 0 ∧ (cel (mw (G.2.1 (F a 1)) 0) (p0.toInt) (p1.toInt) 0) = -2000))
    (c109 : x106.toInt = 0) :
    ((0 : Int) = 1 ∧ lnM (G.2.1 (F a 10)) (mw (G.2.1 (F a 1)) 0) 12 p0.toInt p1.toInt p2.toInt p3.toInt) ∨ ((0 : Int) = 0 ∧ ¬ lnM (G.2.1 (F a 10)) (mw (G.2.1 (F a 1)) 0) 12 p0.toInt p1.toInt p2.toInt p3.toInt) := by
  have e12 : l6_6.toInt = 12 := by omega
  rw [e12] at pl
  rcases pl with ⟨a1, a2⟩ | ⟨a1, a2⟩
  · first
      | (exfalso; omega)
      | exact Or.inl ⟨rfl, lnR_M hR hM ⟨by omega, by omega⟩ (by decide) (by omega) a2⟩
      | exact Or.inr ⟨rfl, lnM_no hM (by omega) (by omega)⟩
  · first
      | (exfalso; omega)
      | exact Or.inr ⟨rfl, fun h => a2 (lnM_R hR hM ⟨by omega, by omega⟩ (by decide) (by omega) h)⟩
theorem v_X11_leansOn_117_4 {K : Nat → Nat} {F : Nat → Nat → Nat} (a : Nat) (G : XG) (l5_6 : Int32) (l6_6 : Int32) (p0 : Int32) (p1 : Int32) (p2 : Int32) (p3 : Int32) (N6 : Nat) (x106 : Int32)
    (ha : K a = 13)
    (hR : RV (G.2.1 (F a 10)))
    (hM : RM (G.2.1 (F a 1)) (0))
    (pl : (l5_6.toInt = 1 ∧ lnR (G.2.1 (F a 10)) (G.2.1 (F a 1)) l6_6.toInt p0.toInt p1.toInt p2.toInt p3.toInt) ∨ (l5_6.toInt = 0 ∧ ¬ lnR (G.2.1 (F a 10)) (G.2.1 (F a 1)) l6_6.toInt p0.toInt p1.toInt p2.toInt p3.toInt))
    (e0 : 0 ≤ p0.toInt ∧ p0.toInt < 3 ∧ 0 ≤ p1.toInt ∧ p1.toInt < 30)
    (e1 : 0 ≤ p3.toInt ∧ p3.toInt < 30)
    (I6_0 : 0 ≤ l6_6.toInt ∧ l6_6.toInt ≤ 12)
    (hm6 : 100 - l6_6.toInt < (((N6) + 1 : Nat) : Int))
    (c10 : (12 : Int) ≤ l6_6.toInt)
    (c100 : ¬ (l5_6.toInt = 0))
    (t106 : (x106.toInt = 1 ∧ (cel (mw (G.2.1 (F a 1)) 0) (p0.toInt) (p1.toInt) 0) ≠ -2000) ∨ (x106.toInt = 0 ∧ (cel (mw (G.2.1 (F a 1)) 0) (p0.toInt) (p1.toInt) 0) = -2000))
    (c109 : ¬ (x106.toInt = 0)) :
    ((1 : Int) = 1 ∧ lnM (G.2.1 (F a 10)) (mw (G.2.1 (F a 1)) 0) 12 p0.toInt p1.toInt p2.toInt p3.toInt) ∨ ((1 : Int) = 0 ∧ ¬ lnM (G.2.1 (F a 10)) (mw (G.2.1 (F a 1)) 0) 12 p0.toInt p1.toInt p2.toInt p3.toInt) := by
  have e12 : l6_6.toInt = 12 := by omega
  rw [e12] at pl
  rcases pl with ⟨a1, a2⟩ | ⟨a1, a2⟩
  · first
      | (exfalso; omega)
      | exact Or.inl ⟨rfl, lnR_M hR hM ⟨by omega, by omega⟩ (by decide) (by omega) a2⟩
      | exact Or.inr ⟨rfl, lnM_no hM (by omega) (by omega)⟩
  · first
      | (exfalso; omega)
      | exact Or.inr ⟨rfl, fun h => a2 (lnM_R hR hM ⟨by omega, by omega⟩ (by decide) (by omega) h)⟩
theorem v_X11_leansOn_95_5 {F : Nat → Nat → Nat} (a : Nat) (G : XG) (l6_6 : Int32) (p0 : Int32) (p1 : Int32) (p2 : Int32) (p3 : Int32) (k_90 : Int32)
    (pj : (k_90.toInt = 1 ∧ lnR (G.2.1 (F a 10)) (G.2.1 (F a 1)) (l6_6.toInt + 1) p0.toInt p1.toInt p2.toInt p3.toInt) ∨ (k_90.toInt = 0 ∧ ¬ lnR (G.2.1 (F a 10)) (G.2.1 (F a 1)) (l6_6.toInt + 1) p0.toInt p1.toInt p2.toInt p3.toInt)) :
    (k_90.toInt = 1 ∧ lnR (G.2.1 (F a 10)) (G.2.1 (F a 1)) (l6_6.toInt + 1) p0.toInt p1.toInt p2.toInt p3.toInt) ∨ (k_90.toInt = 0 ∧ ¬ lnR (G.2.1 (F a 10)) (G.2.1 (F a 1)) (l6_6.toInt + 1) p0.toInt p1.toInt p2.toInt p3.toInt) := by
  exact pj
theorem v_X11_leansOn_86_6 {K : Nat → Nat} {F : Nat → Nat → Nat} (a : Nat) (G : XG) (l5_6 : Int32) (l6_6 : Int32) (p0 : Int32) (p1 : Int32) (p2 : Int32) (p3 : Int32) (N6 : Nat)
    (ha : K a = 13)
    (pl : (l5_6.toInt = 1 ∧ lnR (G.2.1 (F a 10)) (G.2.1 (F a 1)) l6_6.toInt p0.toInt p1.toInt p2.toInt p3.toInt) ∨ (l5_6.toInt = 0 ∧ ¬ lnR (G.2.1 (F a 10)) (G.2.1 (F a 1)) l6_6.toInt p0.toInt p1.toInt p2.toInt p3.toInt))
    (e0 : 0 ≤ p0.toInt ∧ p0.toInt < 3 ∧ 0 ≤ p1.toInt ∧ p1.toInt < 30)
    (e1 : 0 ≤ p3.toInt ∧ p3.toInt < 30)
    (I6_0 : 0 ≤ l6_6.toInt ∧ l6_6.toInt ≤ 12)
    (hm6 : 100 - l6_6.toInt < (((N6) + 1 : Nat) : Int))
    (c10 : ¬ ((12 : Int) ≤ l6_6.toInt))
    (c15 : l5_6.toInt ≠ 0) :
    ((1 : Int) = 1 ∧ lnR (G.2.1 (F a 10)) (G.2.1 (F a 1)) (l6_6.toInt + 1) p0.toInt p1.toInt p2.toInt p3.toInt) ∨ ((1 : Int) = 0 ∧ ¬ lnR (G.2.1 (F a 10)) (G.2.1 (F a 1)) (l6_6.toInt + 1) p0.toInt p1.toInt p2.toInt p3.toInt) := by
  rcases pl with ⟨a1, a2⟩ | ⟨a1, a2⟩
  · first
      | exact Or.inl ⟨rfl, (lnR_s (by omega)).mpr (Or.inl a2)⟩
      | (exfalso; omega)
  · first
      | exact Or.inr ⟨rfl, fun h => ((lnR_s (by omega)).mp h).elim a2 (fun h9 => by
          obtain ⟨h1, h2, h3, h4⟩ := h9
          omega)⟩
      | exact Or.inl ⟨rfl, (lnR_s (by omega)).mpr (Or.inr ⟨by omega, by omega, by omega, by omega⟩)⟩
      | (exfalso; omega)
theorem v_X11_leansOn_89_7 {K : Nat → Nat} {F : Nat → Nat → Nat} (a : Nat) (G : XG) (l5_6 : Int32) (l6_6 : Int32) (p0 : Int32) (p1 : Int32) (p2 : Int32) (p3 : Int32) (N6 : Nat) (x21 : Int32)
    (ha : K a = 13)
    (pl : (l5_6.toInt = 1 ∧ lnR (G.2.1 (F a 10)) (G.2.1 (F a 1)) l6_6.toInt p0.toInt p1.toInt p2.toInt p3.toInt) ∨ (l5_6.toInt = 0 ∧ ¬ lnR (G.2.1 (F a 10)) (G.2.1 (F a 1)) l6_6.toInt p0.toInt p1.toInt p2.toInt p3.toInt))
    (e0 : 0 ≤ p0.toInt ∧ p0.toInt < 3 ∧ 0 ≤ p1.toInt ∧ p1.toInt < 30)
    (e1 : 0 ≤ p3.toInt ∧ p3.toInt < 30)
    (I6_0 : 0 ≤ l6_6.toInt ∧ l6_6.toInt ≤ 12)
    (hm6 : 100 - l6_6.toInt < (((N6) + 1 : Nat) : Int))
    (c10 : ¬ ((12 : Int) ≤ l6_6.toInt))
    (c15 : ¬ (l5_6.toInt ≠ 0))
    (t21 : (x21.toInt = 1 ∧ 0 ≤ l6_6.toInt ∧ l6_6.toInt ≤ 11 ∧ (aI (G.2.1 (F a 10)) (10 * l6_6.toInt + 0)) ≠ -1) ∨ (x21.toInt = 0 ∧ (¬ (0 ≤ l6_6.toInt ∧ l6_6.toInt ≤ 11) ∨ (aI (G.2.1 (F a 10)) (10 * l6_6.toInt + 0)) = -1)))
    (c24 : x21.toInt = 0) :
    ((0 : Int) = 1 ∧ lnR (G.2.1 (F a 10)) (G.2.1 (F a 1)) (l6_6.toInt + 1) p0.toInt p1.toInt p2.toInt p3.toInt) ∨ ((0 : Int) = 0 ∧ ¬ lnR (G.2.1 (F a 10)) (G.2.1 (F a 1)) (l6_6.toInt + 1) p0.toInt p1.toInt p2.toInt p3.toInt) := by
  rcases pl with ⟨a1, a2⟩ | ⟨a1, a2⟩
  · first
      | exact Or.inl ⟨rfl, (lnR_s (by omega)).mpr (Or.inl a2)⟩
      | (exfalso; omega)
  · first
      | exact Or.inr ⟨rfl, fun h => ((lnR_s (by omega)).mp h).elim a2 (fun h9 => by
          obtain ⟨h1, h2, h3, h4⟩ := h9
          omega)⟩
      | exact Or.inl ⟨rfl, (lnR_s (by omega)).mpr (Or.inr ⟨by omega, by omega, by omega, by omega⟩)⟩
      | (exfalso; omega)
theorem v_X11_leansOn_89_8 {K : Nat → Nat} {F : Nat → Nat → Nat} (a : Nat) (G : XG) (l5_6 : Int32) (l6_6 : Int32) (p0 : Int32) (p1 : Int32) (p2 : Int32) (p3 : Int32) (N6 : Nat) (x21 : Int32)
    (ha : K a = 13)
    (pl : (l5_6.toInt = 1 ∧ lnR (G.2.1 (F a 10)) (G.2.1 (F a 1)) l6_6.toInt p0.toInt p1.toInt p2.toInt p3.toInt) ∨ (l5_6.toInt = 0 ∧ ¬ lnR (G.2.1 (F a 10)) (G.2.1 (F a 1)) l6_6.toInt p0.toInt p1.toInt p2.toInt p3.toInt))
    (e0 : 0 ≤ p0.toInt ∧ p0.toInt < 3 ∧ 0 ≤ p1.toInt ∧ p1.toInt < 30)
    (e1 : 0 ≤ p3.toInt ∧ p3.toInt < 30)
    (I6_0 : 0 ≤ l6_6.toInt ∧ l6_6.toInt ≤ 12)
    (hm6 : 100 - l6_6.toInt < (((N6) + 1 : Nat) : Int))
    (c10 : ¬ ((12 : Int) ≤ l6_6.toInt))
    (c15 : ¬ (l5_6.toInt ≠ 0))
    (t21 : (x21.toInt = 1 ∧ 0 ≤ l6_6.toInt ∧ l6_6.toInt ≤ 11 ∧ (aI (G.2.1 (F a 10)) (10 * l6_6.toInt + 0)) ≠ -1) ∨ (x21.toInt = 0 ∧ (¬ (0 ≤ l6_6.toInt ∧ l6_6.toInt ≤ 11) ∨ (aI (G.2.1 (F a 10)) (10 * l6_6.toInt + 0)) = -1)))
    (c24 : ¬ (x21.toInt = 0))
    (z27 : (-1 ≤ (aI (G.2.1 (F a 10)) (10 * l6_6.toInt + 0)) ∧ (aI (G.2.1 (F a 10)) (10 * l6_6.toInt + 0)) ≤ 5) ∧ (0 ≤ (aI (G.2.1 (F a 10)) (10 * l6_6.toInt + 1)) ∧ (aI (G.2.1 (F a 10)) (10 * l6_6.toInt + 1)) ≤ 2) ∧ (0 ≤ (aI (G.2.1 (F a 10)) (10 * l6_6.toInt + 2)) ∧ (aI (G.2.1 (F a 10)) (10 * l6_6.toInt + 2)) ≤ 2) ∧ (-1 ≤ (aI (G.2.1 (F a 10)) (10 * l6_6.toInt + 3)) ∧ (aI (G.2.1 (F a 10)) (10 * l6_6.toInt + 3)) ≤ 2) ∧ ((aI (G.2.1 (F a 10)) (10 * l6_6.toInt + 0)) = 1 ∨ (aI (G.2.1 (F a 10)) (10 * l6_6.toInt + 0)) = 3 ∨ (aI (G.2.1 (F a 10)) (10 * l6_6.toInt + 0)) = 4 → 0 ≤ (aI (G.2.1 (F a 10)) (10 * l6_6.toInt + 3))))
    (c35 : (aI (G.2.1 (F a 10)) (10 * l6_6.toInt + 0)) ≠ (1 : Int)) :
    ((0 : Int) = 1 ∧ lnR (G.2.1 (F a 10)) (G.2.1 (F a 1)) (l6_6.toInt + 1) p0.toInt p1.toInt p2.toInt p3.toInt) ∨ ((0 : Int) = 0 ∧ ¬ lnR (G.2.1 (F a 10)) (G.2.1 (F a 1)) (l6_6.toInt + 1) p0.toInt p1.toInt p2.toInt p3.toInt) := by
  rcases pl with ⟨a1, a2⟩ | ⟨a1, a2⟩
  · first
      | exact Or.inl ⟨rfl, (lnR_s (by omega)).mpr (Or.inl a2)⟩
      | (exfalso; omega)
  · first
      | exact Or.inr ⟨rfl, fun h => ((lnR_s (by omega)).mp h).elim a2 (fun h9 => by
          obtain ⟨h1, h2, h3, h4⟩ := h9
          omega)⟩
      | exact Or.inl ⟨rfl, (lnR_s (by omega)).mpr (Or.inr ⟨by omega, by omega, by omega, by omega⟩)⟩
      | (exfalso; omega)
theorem v_X11_leansOn_89_9 {K : Nat → Nat} {F : Nat → Nat → Nat} (a : Nat) (G : XG) (l5_6 : Int32) (l6_6 : Int32) (p0 : Int32) (p1 : Int32) (p2 : Int32) (p3 : Int32) (N6 : Nat) (x21 : Int32)
    (ha : K a = 13)
    (pl : (l5_6.toInt = 1 ∧ lnR (G.2.1 (F a 10)) (G.2.1 (F a 1)) l6_6.toInt p0.toInt p1.toInt p2.toInt p3.toInt) ∨ (l5_6.toInt = 0 ∧ ¬ lnR (G.2.1 (F a 10)) (G.2.1 (F a 1)) l6_6.toInt p0.toInt p1.toInt p2.toInt p3.toInt))
    (e0 : 0 ≤ p0.toInt ∧ p0.toInt < 3 ∧ 0 ≤ p1.toInt ∧ p1.toInt < 30)
    (e1 : 0 ≤ p3.toInt ∧ p3.toInt < 30)
    (I6_0 : 0 ≤ l6_6.toInt ∧ l6_6.toInt ≤ 12)
    (hm6 : 100 - l6_6.toInt < (((N6) + 1 : Nat) : Int))
    (c10 : ¬ ((12 : Int) ≤ l6_6.toInt))
    (c15 : ¬ (l5_6.toInt ≠ 0))
    (t21 : (x21.toInt = 1 ∧ 0 ≤ l6_6.toInt ∧ l6_6.toInt ≤ 11 ∧ (aI (G.2.1 (F a 10)) (10 * l6_6.toInt + 0)) ≠ -1) ∨ (x21.toInt = 0 ∧ (¬ (0 ≤ l6_6.toInt ∧ l6_6.toInt ≤ 11) ∨ (aI (G.2.1 (F a 10)) (10 * l6_6.toInt + 0)) = -1)))
    (c24 : ¬ (x21.toInt = 0))
    (z27 : (-1 ≤ (aI (G.2.1 (F a 10)) (10 * l6_6.toInt + 0)) ∧ (aI (G.2.1 (F a 10)) (10 * l6_6.toInt + 0)) ≤ 5) ∧ (0 ≤ (aI (G.2.1 (F a 10)) (10 * l6_6.toInt + 1)) ∧ (aI (G.2.1 (F a 10)) (10 * l6_6.toInt + 1)) ≤ 2) ∧ (0 ≤ (aI (G.2.1 (F a 10)) (10 * l6_6.toInt + 2)) ∧ (aI (G.2.1 (F a 10)) (10 * l6_6.toInt + 2)) ≤ 2) ∧ (-1 ≤ (aI (G.2.1 (F a 10)) (10 * l6_6.toInt + 3)) ∧ (aI (G.2.1 (F a 10)) (10 * l6_6.toInt + 3)) ≤ 2) ∧ ((aI (G.2.1 (F a 10)) (10 * l6_6.toInt + 0)) = 1 ∨ (aI (G.2.1 (F a 10)) (10 * l6_6.toInt + 0)) = 3 ∨ (aI (G.2.1 (F a 10)) (10 * l6_6.toInt + 0)) = 4 → 0 ≤ (aI (G.2.1 (F a 10)) (10 * l6_6.toInt + 3))))
    (c35 : ¬ ((aI (G.2.1 (F a 10)) (10 * l6_6.toInt + 0)) ≠ (1 : Int)))
    (c46 : (aI (G.2.1 (F a 10)) (10 * l6_6.toInt + 3)) ≠ p2.toInt) :
    ((0 : Int) = 1 ∧ lnR (G.2.1 (F a 10)) (G.2.1 (F a 1)) (l6_6.toInt + 1) p0.toInt p1.toInt p2.toInt p3.toInt) ∨ ((0 : Int) = 0 ∧ ¬ lnR (G.2.1 (F a 10)) (G.2.1 (F a 1)) (l6_6.toInt + 1) p0.toInt p1.toInt p2.toInt p3.toInt) := by
  rcases pl with ⟨a1, a2⟩ | ⟨a1, a2⟩
  · first
      | exact Or.inl ⟨rfl, (lnR_s (by omega)).mpr (Or.inl a2)⟩
      | (exfalso; omega)
  · first
      | exact Or.inr ⟨rfl, fun h => ((lnR_s (by omega)).mp h).elim a2 (fun h9 => by
          obtain ⟨h1, h2, h3, h4⟩ := h9
          omega)⟩
      | exact Or.inl ⟨rfl, (lnR_s (by omega)).mpr (Or.inr ⟨by omega, by omega, by omega, by omega⟩)⟩
      | (exfalso; omega)
theorem v_X11_leansOn_89_10 {K : Nat → Nat} {F : Nat → Nat → Nat} (a : Nat) (G : XG) (l5_6 : Int32) (l6_6 : Int32) (p0 : Int32) (p1 : Int32) (p2 : Int32) (p3 : Int32) (N6 : Nat) (x21 : Int32)
    (ha : K a = 13)
    (pl : (l5_6.toInt = 1 ∧ lnR (G.2.1 (F a 10)) (G.2.1 (F a 1)) l6_6.toInt p0.toInt p1.toInt p2.toInt p3.toInt) ∨ (l5_6.toInt = 0 ∧ ¬ lnR (G.2.1 (F a 10)) (G.2.1 (F a 1)) l6_6.toInt p0.toInt p1.toInt p2.toInt p3.toInt))
    (e0 : 0 ≤ p0.toInt ∧ p0.toInt < 3 ∧ 0 ≤ p1.toInt ∧ p1.toInt < 30)
    (e1 : 0 ≤ p3.toInt ∧ p3.toInt < 30)
    (I6_0 : 0 ≤ l6_6.toInt ∧ l6_6.toInt ≤ 12)
    (hm6 : 100 - l6_6.toInt < (((N6) + 1 : Nat) : Int))
    (c10 : ¬ ((12 : Int) ≤ l6_6.toInt))
    (c15 : ¬ (l5_6.toInt ≠ 0))
    (t21 : (x21.toInt = 1 ∧ 0 ≤ l6_6.toInt ∧ l6_6.toInt ≤ 11 ∧ (aI (G.2.1 (F a 10)) (10 * l6_6.toInt + 0)) ≠ -1) ∨ (x21.toInt = 0 ∧ (¬ (0 ≤ l6_6.toInt ∧ l6_6.toInt ≤ 11) ∨ (aI (G.2.1 (F a 10)) (10 * l6_6.toInt + 0)) = -1)))
    (c24 : ¬ (x21.toInt = 0))
    (z27 : (-1 ≤ (aI (G.2.1 (F a 10)) (10 * l6_6.toInt + 0)) ∧ (aI (G.2.1 (F a 10)) (10 * l6_6.toInt + 0)) ≤ 5) ∧ (0 ≤ (aI (G.2.1 (F a 10)) (10 * l6_6.toInt + 1)) ∧ (aI (G.2.1 (F a 10)) (10 * l6_6.toInt + 1)) ≤ 2) ∧ (0 ≤ (aI (G.2.1 (F a 10)) (10 * l6_6.toInt + 2)) ∧ (aI (G.2.1 (F a 10)) (10 * l6_6.toInt + 2)) ≤ 2) ∧ (-1 ≤ (aI (G.2.1 (F a 10)) (10 * l6_6.toInt + 3)) ∧ (aI (G.2.1 (F a 10)) (10 * l6_6.toInt + 3)) ≤ 2) ∧ ((aI (G.2.1 (F a 10)) (10 * l6_6.toInt + 0)) = 1 ∨ (aI (G.2.1 (F a 10)) (10 * l6_6.toInt + 0)) = 3 ∨ (aI (G.2.1 (F a 10)) (10 * l6_6.toInt + 0)) = 4 → 0 ≤ (aI (G.2.1 (F a 10)) (10 * l6_6.toInt + 3))))
    (c35 : ¬ ((aI (G.2.1 (F a 10)) (10 * l6_6.toInt + 0)) ≠ (1 : Int)))
    (c46 : ¬ ((aI (G.2.1 (F a 10)) (10 * l6_6.toInt + 3)) ≠ p2.toInt))
    (c57 : (aI (G.2.1 (F a 10)) (10 * l6_6.toInt + 1)) ≠ p0.toInt) :
    ((0 : Int) = 1 ∧ lnR (G.2.1 (F a 10)) (G.2.1 (F a 1)) (l6_6.toInt + 1) p0.toInt p1.toInt p2.toInt p3.toInt) ∨ ((0 : Int) = 0 ∧ ¬ lnR (G.2.1 (F a 10)) (G.2.1 (F a 1)) (l6_6.toInt + 1) p0.toInt p1.toInt p2.toInt p3.toInt) := by
  rcases pl with ⟨a1, a2⟩ | ⟨a1, a2⟩
  · first
      | exact Or.inl ⟨rfl, (lnR_s (by omega)).mpr (Or.inl a2)⟩
      | (exfalso; omega)
  · first
      | exact Or.inr ⟨rfl, fun h => ((lnR_s (by omega)).mp h).elim a2 (fun h9 => by
          obtain ⟨h1, h2, h3, h4⟩ := h9
          omega)⟩
      | exact Or.inl ⟨rfl, (lnR_s (by omega)).mpr (Or.inr ⟨by omega, by omega, by omega, by omega⟩)⟩
      | (exfalso; omega)
theorem v_X11_leansOn_89_11 {K : Nat → Nat} {F : Nat → Nat → Nat} (a : Nat) (G : XG) (l5_6 : Int32) (l6_6 : Int32) (p0 : Int32) (p1 : Int32) (p2 : Int32) (p3 : Int32) (N6 : Nat) (x21 : Int32) (x66 : Int32)
    (ha : K a = 13)
    (pl : (l5_6.toInt = 1 ∧ lnR (G.2.1 (F a 10)) (G.2.1 (F a 1)) l6_6.toInt p0.toInt p1.toInt p2.toInt p3.toInt) ∨ (l5_6.toInt = 0 ∧ ¬ lnR (G.2.1 (F a 10)) (G.2.1 (F a 1)) l6_6.toInt p0.toInt p1.toInt p2.toInt p3.toInt))
    (e0 : 0 ≤ p0.toInt ∧ p0.toInt < 3 ∧ 0 ≤ p1.toInt ∧ p1.toInt < 30)
    (e1 : 0 ≤ p3.toInt ∧ p3.toInt < 30)
    (I6_0 : 0 ≤ l6_6.toInt ∧ l6_6.toInt ≤ 12)
    (hm6 : 100 - l6_6.toInt < (((N6) + 1 : Nat) : Int))
    (c10 : ¬ ((12 : Int) ≤ l6_6.toInt))
    (c15 : ¬ (l5_6.toInt ≠ 0))
    (t21 : (x21.toInt = 1 ∧ 0 ≤ l6_6.toInt ∧ l6_6.toInt ≤ 11 ∧ (aI (G.2.1 (F a 10)) (10 * l6_6.toInt + 0)) ≠ -1) ∨ (x21.toInt = 0 ∧ (¬ (0 ≤ l6_6.toInt ∧ l6_6.toInt ≤ 11) ∨ (aI (G.2.1 (F a 10)) (10 * l6_6.toInt + 0)) = -1)))
    (c24 : ¬ (x21.toInt = 0))
    (z27 : (-1 ≤ (aI (G.2.1 (F a 10)) (10 * l6_6.toInt + 0)) ∧ (aI (G.2.1 (F a 10)) (10 * l6_6.toInt + 0)) ≤ 5) ∧ (0 ≤ (aI (G.2.1 (F a 10)) (10 * l6_6.toInt + 1)) ∧ (aI (G.2.1 (F a 10)) (10 * l6_6.toInt + 1)) ≤ 2) ∧ (0 ≤ (aI (G.2.1 (F a 10)) (10 * l6_6.toInt + 2)) ∧ (aI (G.2.1 (F a 10)) (10 * l6_6.toInt + 2)) ≤ 2) ∧ (-1 ≤ (aI (G.2.1 (F a 10)) (10 * l6_6.toInt + 3)) ∧ (aI (G.2.1 (F a 10)) (10 * l6_6.toInt + 3)) ≤ 2) ∧ ((aI (G.2.1 (F a 10)) (10 * l6_6.toInt + 0)) = 1 ∨ (aI (G.2.1 (F a 10)) (10 * l6_6.toInt + 0)) = 3 ∨ (aI (G.2.1 (F a 10)) (10 * l6_6.toInt + 0)) = 4 → 0 ≤ (aI (G.2.1 (F a 10)) (10 * l6_6.toInt + 3))))
    (c35 : ¬ ((aI (G.2.1 (F a 10)) (10 * l6_6.toInt + 0)) ≠ (1 : Int)))
    (c46 : ¬ ((aI (G.2.1 (F a 10)) (10 * l6_6.toInt + 3)) ≠ p2.toInt))
    (c57 : ¬ ((aI (G.2.1 (F a 10)) (10 * l6_6.toInt + 1)) ≠ p0.toInt))
    (t66 : 0 ≤ p0.toInt ∧ p0.toInt ≤ 2 ∧ 0 ≤ p1.toInt ∧ p1.toInt ≤ 29 → x66.toInt = 4 * (30 * p0.toInt + p1.toInt))
    (c82 : (aI (G.2.1 (F a 1)) (4 * (30 * p0.toInt + p1.toInt) + 1 + (aI (G.2.1 (F a 10)) (10 * l6_6.toInt + 2)))) ≠ p3.toInt) :
    ((0 : Int) = 1 ∧ lnR (G.2.1 (F a 10)) (G.2.1 (F a 1)) (l6_6.toInt + 1) p0.toInt p1.toInt p2.toInt p3.toInt) ∨ ((0 : Int) = 0 ∧ ¬ lnR (G.2.1 (F a 10)) (G.2.1 (F a 1)) (l6_6.toInt + 1) p0.toInt p1.toInt p2.toInt p3.toInt) := by
  rcases pl with ⟨a1, a2⟩ | ⟨a1, a2⟩
  · first
      | exact Or.inl ⟨rfl, (lnR_s (by omega)).mpr (Or.inl a2)⟩
      | (exfalso; omega)
  · first
      | exact Or.inr ⟨rfl, fun h => ((lnR_s (by omega)).mp h).elim a2 (fun h9 => by
          obtain ⟨h1, h2, h3, h4⟩ := h9
          omega)⟩
      | exact Or.inl ⟨rfl, (lnR_s (by omega)).mpr (Or.inr ⟨by omega, by omega, by omega, by omega⟩)⟩
      | (exfalso; omega)
theorem v_X11_leansOn_86_12 {K : Nat → Nat} {F : Nat → Nat → Nat} (a : Nat) (G : XG) (l5_6 : Int32) (l6_6 : Int32) (p0 : Int32) (p1 : Int32) (p2 : Int32) (p3 : Int32) (N6 : Nat) (x21 : Int32) (x66 : Int32)
    (ha : K a = 13)
    (pl : (l5_6.toInt = 1 ∧ lnR (G.2.1 (F a 10)) (G.2.1 (F a 1)) l6_6.toInt p0.toInt p1.toInt p2.toInt p3.toInt) ∨ (l5_6.toInt = 0 ∧ ¬ lnR (G.2.1 (F a 10)) (G.2.1 (F a 1)) l6_6.toInt p0.toInt p1.toInt p2.toInt p3.toInt))
    (e0 : 0 ≤ p0.toInt ∧ p0.toInt < 3 ∧ 0 ≤ p1.toInt ∧ p1.toInt < 30)
    (e1 : 0 ≤ p3.toInt ∧ p3.toInt < 30)
    (I6_0 : 0 ≤ l6_6.toInt ∧ l6_6.toInt ≤ 12)
    (hm6 : 100 - l6_6.toInt < (((N6) + 1 : Nat) : Int))
    (c10 : ¬ ((12 : Int) ≤ l6_6.toInt))
    (c15 : ¬ (l5_6.toInt ≠ 0))
    (t21 : (x21.toInt = 1 ∧ 0 ≤ l6_6.toInt ∧ l6_6.toInt ≤ 11 ∧ (aI (G.2.1 (F a 10)) (10 * l6_6.toInt + 0)) ≠ -1) ∨ (x21.toInt = 0 ∧ (¬ (0 ≤ l6_6.toInt ∧ l6_6.toInt ≤ 11) ∨ (aI (G.2.1 (F a 10)) (10 * l6_6.toInt + 0)) = -1)))
    (c24 : ¬ (x21.toInt = 0))
    (z27 : (-1 ≤ (aI (G.2.1 (F a 10)) (10 * l6_6.toInt + 0)) ∧ (aI (G.2.1 (F a 10)) (10 * l6_6.toInt + 0)) ≤ 5) ∧ (0 ≤ (aI (G.2.1 (F a 10)) (10 * l6_6.toInt + 1)) ∧ (aI (G.2.1 (F a 10)) (10 * l6_6.toInt + 1)) ≤ 2) ∧ (0 ≤ (aI (G.2.1 (F a 10)) (10 * l6_6.toInt + 2)) ∧ (aI (G.2.1 (F a 10)) (10 * l6_6.toInt + 2)) ≤ 2) ∧ (-1 ≤ (aI (G.2.1 (F a 10)) (10 * l6_6.toInt + 3)) ∧ (aI (G.2.1 (F a 10)) (10 * l6_6.toInt + 3)) ≤ 2) ∧ ((aI (G.2.1 (F a 10)) (10 * l6_6.toInt + 0)) = 1 ∨ (aI (G.2.1 (F a 10)) (10 * l6_6.toInt + 0)) = 3 ∨ (aI (G.2.1 (F a 10)) (10 * l6_6.toInt + 0)) = 4 → 0 ≤ (aI (G.2.1 (F a 10)) (10 * l6_6.toInt + 3))))
    (c35 : ¬ ((aI (G.2.1 (F a 10)) (10 * l6_6.toInt + 0)) ≠ (1 : Int)))
    (c46 : ¬ ((aI (G.2.1 (F a 10)) (10 * l6_6.toInt + 3)) ≠ p2.toInt))
    (c57 : ¬ ((aI (G.2.1 (F a 10)) (10 * l6_6.toInt + 1)) ≠ p0.toInt))
    (t66 : 0 ≤ p0.toInt ∧ p0.toInt ≤ 2 ∧ 0 ≤ p1.toInt ∧ p1.toInt ≤ 29 → x66.toInt = 4 * (30 * p0.toInt + p1.toInt))
    (c82 : ¬ ((aI (G.2.1 (F a 1)) (4 * (30 * p0.toInt + p1.toInt) + 1 + (aI (G.2.1 (F a 10)) (10 * l6_6.toInt + 2)))) ≠ p3.toInt)) :
    ((1 : Int) = 1 ∧ lnR (G.2.1 (F a 10)) (G.2.1 (F a 1)) (l6_6.toInt + 1) p0.toInt p1.toInt p2.toInt p3.toInt) ∨ ((1 : Int) = 0 ∧ ¬ lnR (G.2.1 (F a 10)) (G.2.1 (F a 1)) (l6_6.toInt + 1) p0.toInt p1.toInt p2.toInt p3.toInt) := by
  rcases pl with ⟨a1, a2⟩ | ⟨a1, a2⟩
  · first
      | exact Or.inl ⟨rfl, (lnR_s (by omega)).mpr (Or.inl a2)⟩
      | (exfalso; omega)
  · first
      | exact Or.inr ⟨rfl, fun h => ((lnR_s (by omega)).mp h).elim a2 (fun h9 => by
          obtain ⟨h1, h2, h3, h4⟩ := h9
          omega)⟩
      | exact Or.inl ⟨rfl, (lnR_s (by omega)).mpr (Or.inr ⟨by omega, by omega, by omega, by omega⟩)⟩
      | (exfalso; omega)
theorem v_X11_leansOn_4_13 {K : Nat → Nat} {F : Nat → Nat → Nat} (a : Nat) (G : XG) (p0 : Int32) (p1 : Int32) (p3 : Int32) (p2 : Int32)
    (ha : K a = 13)
    (e0 : 0 ≤ p0.toInt ∧ p0.toInt < 3 ∧ 0 ≤ p1.toInt ∧ p1.toInt < 30)
    (e1 : 0 ≤ p3.toInt ∧ p3.toInt < 30) :
    ((0 : Int) = 1 ∧ lnR (G.2.1 (F a 10)) (G.2.1 (F a 1)) (0 : Int) p0.toInt p1.toInt p2.toInt p3.toInt) ∨ ((0 : Int) = 0 ∧ ¬ lnR (G.2.1 (F a 10)) (G.2.1 (F a 1)) (0 : Int) p0.toInt p1.toInt p2.toInt p3.toInt) := by
  exact Or.inr ⟨rfl, lnR_0 (by omega)⟩
abbrev rm_X11_wouldTell : Room := { frames := 7, cells := 0, slots := 0, locals := 166 }
set_option maxHeartbeats 4000000 in
set_option maxRecDepth 100000 in
theorem c_X11_wouldTell (l : Launch) (E : XE) (K : Nat → Nat) (F : Nat → Nat → Nat) (G : XG) (a : Nat) (r1 : Int → Int) (ha : K a = 13) (hR : RV (G.2.1 (F a 10))) (hM : RM (G.2.1 (F a 1)) (0)) (hA : RM (G.2.1 (F a 4)) 0) (h1 : LSt (G.2.1 (F a 10)) (G.2.1 (F a 12)) r1 12) : Met l yX11_wouldTell (xw yX11_wouldTell cX11_wouldTell 2 (some .int)) rm_X11_wouldTell (va_Pc [.ref a] (XP E K F G)) (XQ E (fun v (u : XG) => ∃ r : Int32, v = .int r ∧ XFr [(a, 16), (a, 19), (a, 45), (a, 46)] [F a 15, F a 17, F a 18, F a 11, F a 1] [] G u ∧ (AnsM ((G.1 a 6).toInt) r.toInt (G.2.1 (F a 10)) r1 (mw (G.2.1 (F a 1)) 0)) ∧ (mw (u.2.1 (F a 1)) 0 = mw (G.2.1 (F a 4)) 0) ∧ (RM (u.2.1 (F a 1)) 0)) (fun u H => TW E K F u H)) 0 0 (xA E) := by
  refine x_enter (by decide) (Nat.le_of_ble_eq_true rfl) ?_
  intro p e s m args below meth c Q S hr hlk hnm hQ hP ls hl
  obtain ⟨hz, hK, hT⟩ := hP
  obtain ⟨hx, hb, -, -, -⟩ := id S
  obtain ⟨H, hT, hS, hgo⟩ : ∃ H : Heap, TW E K F G H ∧ va_S (xA E) s.heap H [] ∧ H = s.heap := ⟨_, hT, va_S.rf, rfl⟩
  rw [← hgo]
  have hl : lv_has ls 2 [(0, .ref a)] := hl
  obtain ⟨hk9999, hj9999⟩ := fkX11_15 hT ha
  obtain ⟨hk9999a, hj9999a⟩ := fkX11_17 hT ha
  obtain ⟨hk9999b, hj9999b⟩ := fkX11_18 hT ha
  obtain ⟨hk9999c, hj9999c⟩ := fkX11_11 hT ha
  obtain ⟨hk9999d, hj9999d⟩ := fkX11_1 hT ha
  obtain ⟨hk9999e, hj9999e⟩ := fkX11_4 hT ha
  obtain ⟨hk9999f, hj9999f⟩ := fkX11_10 hT ha
  obtain ⟨hk9999g, hj9999g⟩ := fkX11_12 hT ha
  refine lv_aload_n hx hb dX11_wouldTell_0 rfl (lv_at hl 0 rfl) ?_
  refine x_cl0 (x_runV (b := a) (As := []) (rest := []) S (c_X11_look l E K F G a r1 ha (v_X11_wouldTell_1_1 (F := F) a G hR) (v_X11_wouldTell_1_2 (F := F) a G hM) (v_X11_wouldTell_1_3 (F := F) a G r1 h1)) mv_X11_look km_X11_328 rfl rfl ⟨Nat.le_of_ble_eq_true rfl, Nat.le_of_ble_eq_true rfl⟩ (rc_13 hK hT ha) hK (fun _ => XP.blind) (fun U hU hW => XP.at hK hz hS hT hU hW) rfl hl.1 (Nat.le_of_ble_eq_true rfl) dX11_wouldTell_1 ⟨Nat.le_of_ble_eq_true rfl, Nat.le_of_ble_eq_true rfl⟩) hS ?_
  rintro _ G1 H locs ⟨x1, rfl, hF1, oq1, oq1a, oq1b, oq1c, oq1d, oq1e⟩ hT hS
  refine lv_iconst (v := (-1)) hx hb dX11_wouldTell_4 (by decide) ?_
  refine xi_ceq (tgt := 13) hx hb (rfl : Int32.toInt x1 = x1.toInt) ((by decide) : Int32.toInt (-1) = (-1 : Int)) dX11_wouldTell_5 (by decide) (fun c5 => ?_) (fun c5 => ?_)
  · refine lv_aload_n hx hb dX11_wouldTell_13 rfl (lv_at hl 0 rfl) ?_
    refine gX11_6 S hK hT ha kf_X11_206 dX11_wouldTell_14 (v := (G.1 a 6)) (hF1.1 _ _ (xnj (by decide) (xnj (by decide) (xnj (by decide) (xnj (by decide) xn0))))) (fun hz14 => ?_)
    refine xi_zne (tgt := 34) hx hb (rfl : Int32.toInt (G.1 a 6) = ((G.1 a 6).toInt)) dX11_wouldTell_17 (by decide) (fun c17 => ?_) (fun c17 => ?_)
    · refine lv_aload_n hx hb dX11_wouldTell_34 rfl (lv_at hl 0 rfl) ?_
      refine gX11_45 S hK hT ha kf_X11_316 dX11_wouldTell_35 (v := (G1.1 a 45)) rfl (?_)
      refine lv_istore_n (lv' := [(1, .int (G1.1 a 45)), (0, .ref a)]) hx hb dX11_wouldTell_38 rfl hl (by decide) rfl (fun ls hl => ?_)
      refine lv_aload_n hx hb dX11_wouldTell_39 rfl (lv_at hl 1 rfl) ?_
      refine gX11_4 S hK hT ha kf_X11_21 dX11_wouldTell_40 (fun _ _ => ?_)
      refine lv_iconst (v := 0) hx hb dX11_wouldTell_43 (by decide) ?_
      refine lv_aload_n hx hb dX11_wouldTell_44 rfl (lv_at hl 1 rfl) ?_
      refine gX11_1 S hK hT ha kf_X11_9 dX11_wouldTell_45 (fun _ _ => ?_)
      refine lv_iconst (v := 0) hx hb dX11_wouldTell_48 (by decide) ?_
      refine x_cv0 (x_runS (As := [.ref (F a 4), .int 0, .ref (F a 1), .int 0]) (rest := []) S (c_X11_copy l E K F G1 (F a 4) 0 (F a 1) 0 (XO.b hk9999e (by decide)) (XO.a hk9999d (by decide)) (v_X11_wouldTell_49_4 (K := K) (F := F) a G G1 r1 x1 ha hk9999 hj9999 hk9999a hj9999a hk9999b hj9999b hk9999c hj9999c hk9999d hj9999d hk9999e hj9999e hk9999f hj9999f hk9999g hj9999g hF1 hR hM hA h1 oq1 oq1a oq1b oq1c oq1d oq1e c5 (xzi hz14) c17 (hF1.2.1 _ (xn1 (xne_k hk9999d hk9999 (by decide)) (xn1 (xne_k hk9999d hk9999a (by decide)) (xn1 (xne_k hk9999d hk9999b (by decide)) (xn1 (xne_k hk9999d hk9999c (by decide)) xn0))))) (hF1.2.1 _ (xn1 (xne_k hk9999e hk9999 (by decide)) (xn1 (xne_k hk9999e hk9999a (by decide)) (xn1 (xne_k hk9999e hk9999b (by decide)) (xn1 (xne_k hk9999e hk9999c (by decide)) xn0))))))) ms_X11_copy km_X11_309 rfl rfl ⟨Nat.le_of_ble_eq_true rfl, Nat.le_of_ble_eq_true rfl⟩ hK (fun _ => XP.blind) (fun U hU hW => XP.at hK hz hS hT hU hW) rfl hl.1 (Nat.le_of_ble_eq_true rfl) dX11_wouldTell_49 ⟨Nat.le_of_ble_eq_true rfl, Nat.le_of_ble_eq_true rfl⟩) hS ?_
      rintro G49 H locs ⟨hF49, oq49⟩ hT hS
      refine lv_iload_n hx hb dX11_wouldTell_52 rfl (lv_at hl 0 rfl) ?_
      exact x_ri hx hb hr hlk hQ (Nat.le_of_ble_eq_true rfl) (Nat.le_of_ble_eq_true rfl) hS dX11_wouldTell_53 G49 ⟨_, rfl, (XFr.call (XFr.call XFr.rf hF1 (xm1 0 rfl (xm1 1 rfl (xm1 2 rfl (xm1 3 rfl xm0)))) (xm1 0 rfl (xm1 1 rfl (xm1 2 rfl (xm1 3 rfl xm0)))) xm0) hF49 xm0 (xm1 4 rfl xm0) xm0), (v_X11_wouldTell_53_5 (K := K) (F := F) a G G1 r1 x1 ha oq1 oq1b oq1c oq1e c5 (xzi hz14) c17), (v_X11_wouldTell_53_6 (F := F) a G G1 G49 oq49 (hF1.2.1 _ (xn1 (xne_k hk9999e hk9999 (by decide)) (xn1 (xne_k hk9999e hk9999a (by decide)) (xn1 (xne_k hk9999e hk9999b (by decide)) (xn1 (xne_k hk9999e hk9999c (by decide)) xn0)))))), (v_X11_wouldTell_53_7 (F := F) a G G1 G49 hA oq49 (hF1.2.1 _ (xn1 (xne_k hk9999e hk9999 (by decide)) (xn1 (xne_k hk9999e hk9999a (by decide)) (xn1 (xne_k hk9999e hk9999b (by decide)) (xn1 (xne_k hk9999e hk9999c (by decide)) xn0))))))⟩ hT
    · refine lv_aload_n hx hb dX11_wouldTell_20 rfl (lv_at hl 0 rfl) ?_
      refine lv_iconst (v := 1) hx hb dX11_wouldTell_21 (by decide) ?_
      refine x_cl0 (x_runV (b := a) (As := [.int 1]) (rest := []) S (c_X11_asks l E K F G1 a 1 r1 ha (v_X11_wouldTell_22_8 (F := F) a G G1 hR (hF1.2.1 _ (xn1 (xne_k hk9999f hk9999 (by decide)) (xn1 (xne_k hk9999f hk9999a (by decide)) (xn1 (xne_k hk9999f hk9999b (by decide)) (xn1 (xne_k hk9999f hk9999c (by decide)) xn0)))))) (v_X11_wouldTell_22_9 (F := F) a G G1 hM hA (hF1.2.1 _ (xn1 (xne_k hk9999d hk9999 (by decide)) (xn1 (xne_k hk9999d hk9999a (by decide)) (xn1 (xne_k hk9999d hk9999b (by decide)) (xn1 (xne_k hk9999d hk9999c (by decide)) xn0)))))) (v_X11_wouldTell_22_10 (F := F) a G G1 r1 h1 oq1d (hF1.2.1 _ (xn1 (xne_k hk9999f hk9999 (by decide)) (xn1 (xne_k hk9999f hk9999a (by decide)) (xn1 (xne_k hk9999f hk9999b (by decide)) (xn1 (xne_k hk9999f hk9999c (by decide)) xn0))))) (hF1.2.1 _ (xn1 (xne_k hk9999g hk9999 (by decide)) (xn1 (xne_k hk9999g hk9999a (by decide)) (xn1 (xne_k hk9999g hk9999b (by decide)) (xn1 (xne_j hj9999g hj9999c (by first | decide | omega)) xn0)))))) (v_X11_wouldTell_22_11 (F := F) G a G1 oq1d (hF1.2.1 _ (xn1 (xne_k hk9999d hk9999 (by decide)) (xn1 (xne_k hk9999d hk9999a (by decide)) (xn1 (xne_k hk9999d hk9999b (by decide)) (xn1 (xne_k hk9999d hk9999c (by decide)) xn0))))) (hF1.2.1 _ (xn1 (xne_k hk9999f hk9999 (by decide)) (xn1 (xne_k hk9999f hk9999a (by decide)) (xn1 (xne_k hk9999f hk9999b (by decide)) (xn1 (xne_k hk9999f hk9999c (by decide)) xn0))))))) mv_X11_asks km_X11_319 rfl rfl ⟨Nat.le_of_ble_eq_true rfl, Nat.le_of_ble_eq_true rfl⟩ (rc_13 hK hT ha) hK (fun _ => XP.blind) (fun U hU hW => XP.at hK hz hS hT hU hW) rfl hl.1 (Nat.le_of_ble_eq_true rfl) dX11_wouldTell_22 ⟨Nat.le_of_ble_eq_true rfl, Nat.le_of_ble_eq_true rfl⟩) hS ?_
      rintro _ G22 H locs ⟨x22, rfl, hF22, t22, oq22, oq22a, oq22b⟩ hT hS
      have t22 : -1 ≤ x22.toInt := t22
      have oq22 : pL G22 F a = fuO (G.2.1 (F a 10)) r1 (mw (G.2.1 (F a 1)) 0) (1 : Int) := by simp only [(show G1.2.1 (F a 10) = G.2.1 (F a 10) from (hF1.2.1 _ (xn1 (xne_k hk9999f hk9999 (by decide)) (xn1 (xne_k hk9999f hk9999a (by decide)) (xn1 (xne_k hk9999f hk9999b (by decide)) (xn1 (xne_k hk9999f hk9999c (by decide)) xn0)))))), (show G1.2.1 (F a 1) = G.2.1 (F a 1) from (hF1.2.1 _ (xn1 (xne_k hk9999d hk9999 (by decide)) (xn1 (xne_k hk9999d hk9999a (by decide)) (xn1 (xne_k hk9999d hk9999b (by decide)) (xn1 (xne_k hk9999d hk9999c (by decide)) xn0))))))] at oq22; exact oq22
      have oq22a : x22.toInt = ffP (G.2.1 (F a 10)) (mw (G.2.1 (F a 1)) 0) (pL G22 F a) := by simp only [(show G1.2.1 (F a 10) = G.2.1 (F a 10) from (hF1.2.1 _ (xn1 (xne_k hk9999f hk9999 (by decide)) (xn1 (xne_k hk9999f hk9999a (by decide)) (xn1 (xne_k hk9999f hk9999b (by decide)) (xn1 (xne_k hk9999f hk9999c (by decide)) xn0)))))), (show G1.2.1 (F a 1) = G.2.1 (F a 1) from (hF1.2.1 _ (xn1 (xne_k hk9999d hk9999 (by decide)) (xn1 (xne_k hk9999d hk9999a (by decide)) (xn1 (xne_k hk9999d hk9999b (by decide)) (xn1 (xne_k hk9999d hk9999c (by decide)) xn0))))))] at oq22a; exact oq22a
      refine lv_iconst (v := (-1)) hx hb dX11_wouldTell_25 (by decide) ?_
      refine xi_ceq (tgt := 34) hx hb (rfl : Int32.toInt x22 = x22.toInt) ((by decide) : Int32.toInt (-1) = (-1 : Int)) dX11_wouldTell_26 (by decide) (fun c26 => ?_) (fun c26 => ?_)
      · refine lv_aload_n hx hb dX11_wouldTell_34 rfl (lv_at hl 0 rfl) ?_
        refine gX11_45 S hK hT ha kf_X11_316 dX11_wouldTell_35 (v := (G1.1 a 45)) (hF22.1 _ _ (xnj (by decide) (xnj (by decide) xn0))) (?_)
        refine lv_istore_n (lv' := [(1, .int (G1.1 a 45)), (0, .ref a)]) hx hb dX11_wouldTell_38 rfl hl (by decide) rfl (fun ls hl => ?_)
        refine lv_aload_n hx hb dX11_wouldTell_39 rfl (lv_at hl 1 rfl) ?_
        refine gX11_4 S hK hT ha kf_X11_21 dX11_wouldTell_40 (fun _ _ => ?_)
        refine lv_iconst (v := 0) hx hb dX11_wouldTell_43 (by decide) ?_
        refine lv_aload_n hx hb dX11_wouldTell_44 rfl (lv_at hl 1 rfl) ?_
        refine gX11_1 S hK hT ha kf_X11_9 dX11_wouldTell_45 (fun _ _ => ?_)
        refine lv_iconst (v := 0) hx hb dX11_wouldTell_48 (by decide) ?_
        refine x_cv0 (x_runS (As := [.ref (F a 4), .int 0, .ref (F a 1), .int 0]) (rest := []) S (c_X11_copy l E K F G22 (F a 4) 0 (F a 1) 0 (XO.b hk9999e (by decide)) (XO.a hk9999d (by decide)) (v_X11_wouldTell_49_12 (K := K) (F := F) a G G1 G22 r1 x1 x22 ha hk9999 hj9999 hk9999a hj9999a hk9999b hj9999b hk9999c hj9999c hk9999d hj9999d hk9999e hj9999e hk9999f hj9999f hk9999g hj9999g hF1 hF22 hR hM hA h1 oq1 oq1a oq1b oq1c oq1d oq1e oq22 oq22a oq22b c5 (xzi hz14) c17 t22 c26 (hF1.2.1 _ (xn1 (xne_k hk9999e hk9999 (by decide)) (xn1 (xne_k hk9999e hk9999a (by decide)) (xn1 (xne_k hk9999e hk9999b (by decide)) (xn1 (xne_k hk9999e hk9999c (by decide)) xn0))))) ((hF22.2.1 _ (xn1 (xne_k hk9999d hk9999 (by decide)) (xn1 (xne_k hk9999d hk9999a (by decide)) (xn1 (xne_k hk9999d hk9999b (by decide)) xn0)))).trans (hF1.2.1 _ (xn1 (xne_k hk9999d hk9999 (by decide)) (xn1 (xne_k hk9999d hk9999a (by decide)) (xn1 (xne_k hk9999d hk9999b (by decide)) (xn1 (xne_k hk9999d hk9999c (by decide)) xn0)))))) (hF22.2.1 _ (xn1 (xne_k hk9999c hk9999 (by decide)) (xn1 (xne_k hk9999c hk9999a (by decide)) (xn1 (xne_k hk9999c hk9999b (by decide)) xn0)))) ((hF22.2.1 _ (xn1 (xne_k hk9999e hk9999 (by decide)) (xn1 (xne_k hk9999e hk9999a (by decide)) (xn1 (xne_k hk9999e hk9999b (by decide)) xn0)))).trans (hF1.2.1 _ (xn1 (xne_k hk9999e hk9999 (by decide)) (xn1 (xne_k hk9999e hk9999a (by decide)) (xn1 (xne_k hk9999e hk9999b (by decide)) (xn1 (xne_k hk9999e hk9999c (by decide)) xn0)))))) (hF22.1 _ _ (xnj (by decide) (xnj (by decide) xn0))) (hF22.1 _ _ (xnj (by decide) (xnj (by decide) xn0))))) ms_X11_copy km_X11_309 rfl rfl ⟨Nat.le_of_ble_eq_true rfl, Nat.le_of_ble_eq_true rfl⟩ hK (fun _ => XP.blind) (fun U hU hW => XP.at hK hz hS hT hU hW) rfl hl.1 (Nat.le_of_ble_eq_true rfl) dX11_wouldTell_49 ⟨Nat.le_of_ble_eq_true rfl, Nat.le_of_ble_eq_true rfl⟩) hS ?_
        rintro G49 H locs ⟨hF49, oq49⟩ hT hS
        refine lv_iload_n hx hb dX11_wouldTell_52 rfl (lv_at hl 0 rfl) ?_
        exact x_ri hx hb hr hlk hQ (Nat.le_of_ble_eq_true rfl) (Nat.le_of_ble_eq_true rfl) hS dX11_wouldTell_53 G49 ⟨_, rfl, (XFr.call (XFr.call (XFr.call XFr.rf hF1 (xm1 0 rfl (xm1 1 rfl (xm1 2 rfl (xm1 3 rfl xm0)))) (xm1 0 rfl (xm1 1 rfl (xm1 2 rfl (xm1 3 rfl xm0)))) xm0) hF22 (xm1 0 rfl (xm1 1 rfl xm0)) (xm1 0 rfl (xm1 1 rfl (xm1 2 rfl xm0))) xm0) hF49 xm0 (xm1 4 rfl xm0) xm0), (v_X11_wouldTell_53_13 (K := K) (F := F) a G G1 G22 r1 x1 x22 ha oq1 oq1b oq1c oq1e oq22 oq22a oq22b c5 (xzi hz14) c17 t22 c26), (v_X11_wouldTell_53_14 (F := F) a G G1 G22 G49 oq49 (hF1.2.1 _ (xn1 (xne_k hk9999e hk9999 (by decide)) (xn1 (xne_k hk9999e hk9999a (by decide)) (xn1 (xne_k hk9999e hk9999b (by decide)) (xn1 (xne_k hk9999e hk9999c (by decide)) xn0))))) ((hF22.2.1 _ (xn1 (xne_k hk9999e hk9999 (by decide)) (xn1 (xne_k hk9999e hk9999a (by decide)) (xn1 (xne_k hk9999e hk9999b (by decide)) xn0)))).trans (hF1.2.1 _ (xn1 (xne_k hk9999e hk9999 (by decide)) (xn1 (xne_k hk9999e hk9999a (by decide)) (xn1 (xne_k hk9999e hk9999b (by decide)) (xn1 (xne_k hk9999e hk9999c (by decide)) xn0))))))), (v_X11_wouldTell_53_15 (F := F) a G G1 G22 G49 hA oq49 (hF1.2.1 _ (xn1 (xne_k hk9999e hk9999 (by decide)) (xn1 (xne_k hk9999e hk9999a (by decide)) (xn1 (xne_k hk9999e hk9999b (by decide)) (xn1 (xne_k hk9999e hk9999c (by decide)) xn0))))) ((hF22.2.1 _ (xn1 (xne_k hk9999e hk9999 (by decide)) (xn1 (xne_k hk9999e hk9999a (by decide)) (xn1 (xne_k hk9999e hk9999b (by decide)) xn0)))).trans (hF1.2.1 _ (xn1 (xne_k hk9999e hk9999 (by decide)) (xn1 (xne_k hk9999e hk9999a (by decide)) (xn1 (xne_k hk9999e hk9999b (by decide)) (xn1 (xne_k hk9999e hk9999c (by decide)) xn0)))))))⟩ hT
      · refine lv_bipush (v := (-5)) hx hb dX11_wouldTell_29 (by decide) ?_
        refine lv_goto (tgt := 38) hx hb dX11_wouldTell_31 (by decide) ?_
        refine lv_istore_n (lv' := [(1, .int (-5)), (0, .ref a)]) hx hb dX11_wouldTell_38 rfl hl (by decide) rfl (fun ls hl => ?_)
        refine lv_aload_n hx hb dX11_wouldTell_39 rfl (lv_at hl 1 rfl) ?_
        refine gX11_4 S hK hT ha kf_X11_21 dX11_wouldTell_40 (fun _ _ => ?_)
        refine lv_iconst (v := 0) hx hb dX11_wouldTell_43 (by decide) ?_
        refine lv_aload_n hx hb dX11_wouldTell_44 rfl (lv_at hl 1 rfl) ?_
        refine gX11_1 S hK hT ha kf_X11_9 dX11_wouldTell_45 (fun _ _ => ?_)
        refine lv_iconst (v := 0) hx hb dX11_wouldTell_48 (by decide) ?_
        refine x_cv0 (x_runS (As := [.ref (F a 4), .int 0, .ref (F a 1), .int 0]) (rest := []) S (c_X11_copy l E K F G22 (F a 4) 0 (F a 1) 0 (XO.b hk9999e (by decide)) (XO.a hk9999d (by decide)) (v_X11_wouldTell_49_16 (K := K) (F := F) a G G1 G22 r1 x1 x22 ha hk9999 hj9999 hk9999a hj9999a hk9999b hj9999b hk9999c hj9999c hk9999d hj9999d hk9999e hj9999e hk9999f hj9999f hk9999g hj9999g hF1 hF22 hR hM hA h1 oq1 oq1a oq1b oq1c oq1d oq1e oq22 oq22a oq22b c5 (xzi hz14) c17 t22 c26 (hF1.2.1 _ (xn1 (xne_k hk9999e hk9999 (by decide)) (xn1 (xne_k hk9999e hk9999a (by decide)) (xn1 (xne_k hk9999e hk9999b (by decide)) (xn1 (xne_k hk9999e hk9999c (by decide)) xn0))))) ((hF22.2.1 _ (xn1 (xne_k hk9999d hk9999 (by decide)) (xn1 (xne_k hk9999d hk9999a (by decide)) (xn1 (xne_k hk9999d hk9999b (by decide)) xn0)))).trans (hF1.2.1 _ (xn1 (xne_k hk9999d hk9999 (by decide)) (xn1 (xne_k hk9999d hk9999a (by decide)) (xn1 (xne_k hk9999d hk9999b (by decide)) (xn1 (xne_k hk9999d hk9999c (by decide)) xn0)))))) (hF22.2.1 _ (xn1 (xne_k hk9999c hk9999 (by decide)) (xn1 (xne_k hk9999c hk9999a (by decide)) (xn1 (xne_k hk9999c hk9999b (by decide)) xn0)))) ((hF22.2.1 _ (xn1 (xne_k hk9999e hk9999 (by decide)) (xn1 (xne_k hk9999e hk9999a (by decide)) (xn1 (xne_k hk9999e hk9999b (by decide)) xn0)))).trans (hF1.2.1 _ (xn1 (xne_k hk9999e hk9999 (by decide)) (xn1 (xne_k hk9999e hk9999a (by decide)) (xn1 (xne_k hk9999e hk9999b (by decide)) (xn1 (xne_k hk9999e hk9999c (by decide)) xn0)))))) (hF22.1 _ _ (xnj (by decide) (xnj (by decide) xn0))) (hF22.1 _ _ (xnj (by decide) (xnj (by decide) xn0))))) ms_X11_copy km_X11_309 rfl rfl ⟨Nat.le_of_ble_eq_true rfl, Nat.le_of_ble_eq_true rfl⟩ hK (fun _ => XP.blind) (fun U hU hW => XP.at hK hz hS hT hU hW) rfl hl.1 (Nat.le_of_ble_eq_true rfl) dX11_wouldTell_49 ⟨Nat.le_of_ble_eq_true rfl, Nat.le_of_ble_eq_true rfl⟩) hS ?_
        rintro G49 H locs ⟨hF49, oq49⟩ hT hS
        refine lv_iload_n hx hb dX11_wouldTell_52 rfl (lv_at hl 0 rfl) ?_
        exact x_ri hx hb hr hlk hQ (Nat.le_of_ble_eq_true rfl) (Nat.le_of_ble_eq_true rfl) hS dX11_wouldTell_53 G49 ⟨_, rfl, (XFr.call (XFr.call (XFr.call XFr.rf hF1 (xm1 0 rfl (xm1 1 rfl (xm1 2 rfl (xm1 3 rfl xm0)))) (xm1 0 rfl (xm1 1 rfl (xm1 2 rfl (xm1 3 rfl xm0)))) xm0) hF22 (xm1 0 rfl (xm1 1 rfl xm0)) (xm1 0 rfl (xm1 1 rfl (xm1 2 rfl xm0))) xm0) hF49 xm0 (xm1 4 rfl xm0) xm0), (by rw [((by decide) : Int32.toInt (-5) = (-5 : Int))] <;> exact (v_X11_wouldTell_53_17 (K := K) (F := F) a G G1 G22 r1 x1 x22 ha oq1 oq1b oq1c oq1e oq22 oq22a oq22b c5 (xzi hz14) c17 t22 c26)), (v_X11_wouldTell_53_18 (F := F) a G G1 G22 G49 oq49 (hF1.2.1 _ (xn1 (xne_k hk9999e hk9999 (by decide)) (xn1 (xne_k hk9999e hk9999a (by decide)) (xn1 (xne_k hk9999e hk9999b (by decide)) (xn1 (xne_k hk9999e hk9999c (by decide)) xn0))))) ((hF22.2.1 _ (xn1 (xne_k hk9999e hk9999 (by decide)) (xn1 (xne_k hk9999e hk9999a (by decide)) (xn1 (xne_k hk9999e hk9999b (by decide)) xn0)))).trans (hF1.2.1 _ (xn1 (xne_k hk9999e hk9999 (by decide)) (xn1 (xne_k hk9999e hk9999a (by decide)) (xn1 (xne_k hk9999e hk9999b (by decide)) (xn1 (xne_k hk9999e hk9999c (by decide)) xn0))))))), (v_X11_wouldTell_53_19 (F := F) a G G1 G22 G49 hA oq49 (hF1.2.1 _ (xn1 (xne_k hk9999e hk9999 (by decide)) (xn1 (xne_k hk9999e hk9999a (by decide)) (xn1 (xne_k hk9999e hk9999b (by decide)) (xn1 (xne_k hk9999e hk9999c (by decide)) xn0))))) ((hF22.2.1 _ (xn1 (xne_k hk9999e hk9999 (by decide)) (xn1 (xne_k hk9999e hk9999a (by decide)) (xn1 (xne_k hk9999e hk9999b (by decide)) xn0)))).trans (hF1.2.1 _ (xn1 (xne_k hk9999e hk9999 (by decide)) (xn1 (xne_k hk9999e hk9999a (by decide)) (xn1 (xne_k hk9999e hk9999b (by decide)) (xn1 (xne_k hk9999e hk9999c (by decide)) xn0)))))))⟩ hT
  · refine lv_bipush (v := (-5)) hx hb dX11_wouldTell_8 (by decide) ?_
    refine lv_goto (tgt := 38) hx hb dX11_wouldTell_10 (by decide) ?_
    refine lv_istore_n (lv' := [(1, .int (-5)), (0, .ref a)]) hx hb dX11_wouldTell_38 rfl hl (by decide) rfl (fun ls hl => ?_)
    refine lv_aload_n hx hb dX11_wouldTell_39 rfl (lv_at hl 1 rfl) ?_
    refine gX11_4 S hK hT ha kf_X11_21 dX11_wouldTell_40 (fun _ _ => ?_)
    refine lv_iconst (v := 0) hx hb dX11_wouldTell_43 (by decide) ?_
    refine lv_aload_n hx hb dX11_wouldTell_44 rfl (lv_at hl 1 rfl) ?_
    refine gX11_1 S hK hT ha kf_X11_9 dX11_wouldTell_45 (fun _ _ => ?_)
    refine lv_iconst (v := 0) hx hb dX11_wouldTell_48 (by decide) ?_
    refine x_cv0 (x_runS (As := [.ref (F a 4), .int 0, .ref (F a 1), .int 0]) (rest := []) S (c_X11_copy l E K F G1 (F a 4) 0 (F a 1) 0 (XO.b hk9999e (by decide)) (XO.a hk9999d (by decide)) (v_X11_wouldTell_49_20 (K := K) (F := F) a G G1 r1 x1 ha hk9999 hj9999 hk9999a hj9999a hk9999b hj9999b hk9999c hj9999c hk9999d hj9999d hk9999e hj9999e hk9999f hj9999f hk9999g hj9999g hF1 hR hM hA h1 oq1 oq1a oq1b oq1c oq1d oq1e c5 (hF1.2.1 _ (xn1 (xne_k hk9999d hk9999 (by decide)) (xn1 (xne_k hk9999d hk9999a (by decide)) (xn1 (xne_k hk9999d hk9999b (by decide)) (xn1 (xne_k hk9999d hk9999c (by decide)) xn0))))) (hF1.2.1 _ (xn1 (xne_k hk9999e hk9999 (by decide)) (xn1 (xne_k hk9999e hk9999a (by decide)) (xn1 (xne_k hk9999e hk9999b (by decide)) (xn1 (xne_k hk9999e hk9999c (by decide)) xn0))))))) ms_X11_copy km_X11_309 rfl rfl ⟨Nat.le_of_ble_eq_true rfl, Nat.le_of_ble_eq_true rfl⟩ hK (fun _ => XP.blind) (fun U hU hW => XP.at hK hz hS hT hU hW) rfl hl.1 (Nat.le_of_ble_eq_true rfl) dX11_wouldTell_49 ⟨Nat.le_of_ble_eq_true rfl, Nat.le_of_ble_eq_true rfl⟩) hS ?_
    rintro G49 H locs ⟨hF49, oq49⟩ hT hS
    refine lv_iload_n hx hb dX11_wouldTell_52 rfl (lv_at hl 0 rfl) ?_
    exact x_ri hx hb hr hlk hQ (Nat.le_of_ble_eq_true rfl) (Nat.le_of_ble_eq_true rfl) hS dX11_wouldTell_53 G49 ⟨_, rfl, (XFr.call (XFr.call XFr.rf hF1 (xm1 0 rfl (xm1 1 rfl (xm1 2 rfl (xm1 3 rfl xm0)))) (xm1 0 rfl (xm1 1 rfl (xm1 2 rfl (xm1 3 rfl xm0)))) xm0) hF49 xm0 (xm1 4 rfl xm0) xm0), (by rw [((by decide) : Int32.toInt (-5) = (-5 : Int))] <;> exact (v_X11_wouldTell_53_21 (K := K) (F := F) a G G1 r1 x1 ha oq1 oq1b oq1c oq1e c5)), (v_X11_wouldTell_53_22 (F := F) a G G1 G49 oq49 (hF1.2.1 _ (xn1 (xne_k hk9999e hk9999 (by decide)) (xn1 (xne_k hk9999e hk9999a (by decide)) (xn1 (xne_k hk9999e hk9999b (by decide)) (xn1 (xne_k hk9999e hk9999c (by decide)) xn0)))))), (v_X11_wouldTell_53_23 (F := F) a G G1 G49 hA oq49 (hF1.2.1 _ (xn1 (xne_k hk9999e hk9999 (by decide)) (xn1 (xne_k hk9999e hk9999a (by decide)) (xn1 (xne_k hk9999e hk9999b (by decide)) (xn1 (xne_k hk9999e hk9999c (by decide)) xn0))))))⟩ hT

theorem z_X11_wouldSet_1 (a0 : Int) (a1 : Int) (a2 : Int) (a3 : Int) (a4 : Int) (a5 : Int) (h0 : 0 ≤ a0) (h1 : a0 < 3) (h2 : 0 ≤ a1) (h3 : a1 < 30) (h4 : 0 ≤ a2) (h5 : a2 < 3) (h6 : 0 ≤ a0 ∧ a0 ≤ 2 ∧ 0 ≤ a1 ∧ a1 ≤ 29 → a3 = 4 * (30 * a0 + a1)) (h7 : a4 = a3 + (1 : Int) ∨ a3 + (1 : Int) < -2147483648 ∨ 2147483648 ≤ a3 + (1 : Int)) (h8 : a5 = a4 + a2 ∨ a4 + a2 < -2147483648 ∨ 2147483648 ≤ a4 + a2) : 0 ≤ a5 ∧ a5 < ((360 : Nat) : Int) := by omega
abbrev rm_X11_wouldSet : Room := { frames := 8, cells := 0, slots := 0, locals := 187 }
set_option maxHeartbeats 4000000 in
set_option maxRecDepth 100000 in
theorem c_X11_wouldSet (l : Launch) (E : XE) (K : Nat → Nat) (F : Nat → Nat → Nat) (G : XG) (a : Nat) (p0 : Int32) (p1 : Int32) (p2 : Int32) (p3 : Int32) (ha : K a = 13) (hR : RV (G.2.1 (F a 10))) (hM : RM (G.2.1 (F a 1)) (0)) : Met l yX11_wouldSet (xw yX11_wouldSet cX11_wouldSet 6 (some .int)) rm_X11_wouldSet (va_Pc [.ref a, .int p0, .int p1, .int p2, .int p3] (XP E K F G)) (XQ E (fun v (u : XG) => ∃ r : Int32, v = .int r ∧ XFr [(a, 16), (a, 19), (a, 45), (a, 46), (a, 0)] [F a 15, F a 17, F a 18, F a 11, F a 1, F a 4, F a 12] [] G u ∧ (mw (u.2.1 (F a 1)) 0 = mw (G.2.1 (F a 1)) 0) ∧ (RM (u.2.1 (F a 1)) 0) ∧ ((whyS (mw (G.2.1 (F a 1)) 0) p0.toInt p1.toInt p2.toInt p3.toInt ≠ 0 ∧ r.toInt = whyS (mw (G.2.1 (F a 1)) 0) p0.toInt p1.toInt p2.toInt p3.toInt) ∨ (whyS (mw (G.2.1 (F a 1)) 0) p0.toInt p1.toInt p2.toInt p3.toInt = 0 ∧ AnsM ((G.1 a 6).toInt) r.toInt (G.2.1 (F a 10)) (mw (G.2.1 (F a 1)) 0) (rset (mw (G.2.1 (F a 1)) 0) (90 * p0.toInt + 30 * p2.toInt + p1.toInt) p3.toInt)))) (fun u H => TW E K F u H)) 0 0 (xA E) := by
  refine x_enter (by decide) (Nat.le_of_ble_eq_true rfl) ?_
  intro p e s m args below meth c Q S hr hlk hnm hQ hP ls hl
  obtain ⟨hz, hK, hT⟩ := hP
  obtain ⟨hx, hb, -, -, -⟩ := id S
  obtain ⟨H, hT, hS, hgo⟩ : ∃ H : Heap, TW E K F G H ∧ va_S (xA E) s.heap H [] ∧ H = s.heap := ⟨_, hT, va_S.rf, rfl⟩
  rw [← hgo]
  have hl : lv_has ls 6 [(0, .ref a), (1, .int p0), (2, .int p1), (3, .int p2), (4, .int p3)] := hl
  obtain ⟨hk9999, hj9999⟩ := fkX11_15 hT ha
  obtain ⟨hk9999a, hj9999a⟩ := fkX11_17 hT ha
  obtain ⟨hk9999b, hj9999b⟩ := fkX11_18 hT ha
  obtain ⟨hk9999c, hj9999c⟩ := fkX11_11 hT ha
  obtain ⟨hk9999d, hj9999d⟩ := fkX11_1 hT ha
  obtain ⟨hk9999e, hj9999e⟩ := fkX11_4 hT ha
  obtain ⟨hk9999f, hj9999f⟩ := fkX11_12 hT ha
  obtain ⟨hk9999g, hj9999g⟩ := fkX11_10 hT ha
  refine lv_aload_n hx hb dX11_wouldSet_0 rfl (lv_at hl 0 rfl) ?_
  refine lv_iconst (v := 0) hx hb dX11_wouldSet_1 (by decide) ?_
  refine pX11_0 (v := 0) S hK hT hS ha kf_X11_134 dX11_wouldSet_2 (fun H locs hT hS => ?_)
  obtain ⟨G2, hG2⟩ : ∃ GG : XG, GG = dput G a 0 0 := ⟨_, rfl⟩
  rw [← hG2] at hT
  refine lv_aload_n hx hb dX11_wouldSet_5 rfl (lv_at hl 0 rfl) ?_
  refine lv_iload_n hx hb dX11_wouldSet_6 rfl (lv_at hl 1 rfl) ?_
  refine lv_iload_n hx hb dX11_wouldSet_7 rfl (lv_at hl 2 rfl) ?_
  refine lv_iload_n hx hb dX11_wouldSet_8 rfl (lv_at hl 3 rfl) ?_
  refine lv_iload hx hb dX11_wouldSet_9 (lv_at hl 4 rfl) ?_
  refine x_clp (x_runV (b := a) (As := [.int p0, .int p1, .int p2, .int p3]) (rest := []) S (c_X11_whyNotSet l E K F G2 H a p0 p1 p2 p3 ha (v_X11_wouldSet_11_1 (F := F) a G2 G hM (ld_c hG2))) mv_X11_whyNotSet km_X11_359 rfl rfl ⟨Nat.le_of_ble_eq_true rfl, Nat.le_of_ble_eq_true rfl⟩ (rc_13 hK hT ha) hK (fun _ => XPh.blind) (fun U hU hW => XPh.at hK hz hS hT hU hW) rfl hl.1 (Nat.le_of_ble_eq_true rfl) dX11_wouldSet_11 ⟨Nat.le_of_ble_eq_true rfl, Nat.le_of_ble_eq_true rfl⟩) hS ?_
  rintro _ _ locs ⟨x11, rfl, oq11⟩ hS
  have oq11 : x11.toInt = whyS (mw (G.2.1 (F a 1)) 0) p0.toInt p1.toInt p2.toInt p3.toInt := by simp only [(show G2.2.1 (F a 1) = G.2.1 (F a 1) from (ld_c hG2))] at oq11; exact oq11
  refine lv_istore (lv' := [(5, .int x11), (0, .ref a), (1, .int p0), (2, .int p1), (3, .int p2), (4, .int p3)]) hx hb dX11_wouldSet_14 hl (by decide) rfl (fun ls hl => ?_)
  refine lv_iload hx hb dX11_wouldSet_16 (lv_at hl 0 rfl) ?_
  refine xi_zeq (tgt := 24) hx hb (rfl : Int32.toInt x11 = x11.toInt) dX11_wouldSet_18 (by decide) (fun c18 => ?_) (fun c18 => ?_)
  · have z24 : 0 ≤ p0.toInt ∧ p0.toInt < 3 ∧ 0 ≤ p1.toInt ∧ p1.toInt < 30 ∧ 0 ≤ p2.toInt ∧ p2.toInt < 3 ∧ (p3.toInt = -1000 ∨ (-99 ≤ p3.toInt ∧ p3.toInt ≤ 99)) := (whyS_0 (oq11.symm.trans c18)).1
    refine lv_aload_n hx hb dX11_wouldSet_24 rfl (lv_at hl 1 rfl) ?_
    refine x_cv0 (x_runV (b := a) (As := []) (rest := []) S (c_X11_start l E K F G2 a ha (v_X11_wouldSet_25_2 (F := F) a G2 G hR (ld_c hG2)) (v_X11_wouldSet_25_3 (F := F) a G2 G hM (ld_c hG2))) mv_X11_start km_X11_350 rfl rfl ⟨Nat.le_of_ble_eq_true rfl, Nat.le_of_ble_eq_true rfl⟩ (rc_13 hK hT ha) hK (fun _ => XP.blind) (fun U hU hW => XP.at hK hz hS hT hU hW) rfl hl.1 (Nat.le_of_ble_eq_true rfl) dX11_wouldSet_25 ⟨Nat.le_of_ble_eq_true rfl, Nat.le_of_ble_eq_true rfl⟩) hS ?_
    rintro G25 H locs ⟨hF25, oq25, oq25a, oq25b⟩ hT hS
    have oq25 : mw (G25.2.1 (F a 4)) 0 = mw (G.2.1 (F a 1)) 0 := by simp only [(show G2.2.1 (F a 1) = G.2.1 (F a 1) from (ld_c hG2))] at oq25; exact oq25
    have oq25b : LSt (G.2.1 (F a 10)) (G25.2.1 (F a 12)) (mw (G.2.1 (F a 1)) 0) 12 := by simp only [(show G2.2.1 (F a 10) = G.2.1 (F a 10) from (ld_c hG2)), (show G2.2.1 (F a 1) = G.2.1 (F a 1) from (ld_c hG2))] at oq25b; exact oq25b
    refine lv_aload_n hx hb dX11_wouldSet_28 rfl (lv_at hl 1 rfl) ?_
    refine gX11_1 S hK hT ha kf_X11_9 dX11_wouldSet_29 (fun _ _ => ?_)
    refine lv_iload_n hx hb dX11_wouldSet_32 rfl (lv_at hl 2 rfl) ?_
    refine lv_iload_n hx hb dX11_wouldSet_33 rfl (lv_at hl 3 rfl) ?_
    refine x_clp (x_runS (As := [.int p0, .int p1]) (rest := [.ref (F a 1)]) S (c_X11_at l E K F G25 H p0 p1) ms_X11_at km_X11_156 rfl rfl ⟨Nat.le_of_ble_eq_true rfl, Nat.le_of_ble_eq_true rfl⟩ hK (fun _ => XPh.blind) (fun U hU hW => XPh.at hK hz hS hT hU hW) rfl hl.1 (Nat.le_of_ble_eq_true rfl) dX11_wouldSet_34 ⟨Nat.le_of_ble_eq_true rfl, Nat.le_of_ble_eq_true rfl⟩) hS ?_
    rintro _ _ locs ⟨x34, rfl, t34⟩ hS
    have t34 : 0 ≤ p0.toInt ∧ p0.toInt ≤ 2 ∧ 0 ≤ p1.toInt ∧ p1.toInt ≤ 29 → x34.toInt = 4 * (30 * p0.toInt + p1.toInt) := t34
    refine lv_iconst (v := 1) hx hb dX11_wouldSet_37 (by decide) ?_
    refine xi_iadd hx hb (rfl : Int32.toInt x34 = x34.toInt) ((by decide) : Int32.toInt 1 = (1 : Int)) dX11_wouldSet_38 (fun x38 t38 => ?_)
    refine lv_iload_n hx hb dX11_wouldSet_39 rfl (lv_at hl 4 rfl) ?_
    refine xi_iadd hx hb (rfl : Int32.toInt x38 = x38.toInt) (rfl : Int32.toInt p2 = p2.toInt) dX11_wouldSet_40 (fun x40 t40 => ?_)
    refine lv_iload hx hb dX11_wouldSet_41 (lv_at hl 5 rfl) ?_
    refine as_0 (x := p3) S hK hT hS hk9999d ar_30 aw_30 (by decide) (z_X11_wouldSet_1 p0.toInt p1.toInt p2.toInt x34.toInt x38.toInt x40.toInt (z24).1 (z24).2.1 (z24).2.2.1 (z24).2.2.2.1 (z24).2.2.2.2.1 (z24).2.2.2.2.2.1 t34 t38 t40) dX11_wouldSet_43 (fun H locs hT hS => ?_)
    obtain ⟨G43, hG43⟩ : ∃ GG : XG, GG = cput G25 (F a 1) x40.toNatClampNeg p3 := ⟨_, rfl⟩
    rw [← hG43] at hT
    refine lv_aload_n hx hb dX11_wouldSet_44 rfl (lv_at hl 1 rfl) ?_
    refine x_cl0 (x_runV (b := a) (As := []) (rest := []) S (c_X11_wouldTell l E K F G43 a (mw (G.2.1 (F a 1)) 0) ha (v_X11_wouldSet_45_4 (F := F) a G G43 hR ((lc_c hG43 (xne_k hk9999g hk9999d (by decide))).trans ((hF25.2.1 _ (xn1 (xne_k hk9999g hk9999e (by decide)) (xn1 (xne_k hk9999g hk9999f (by decide)) xn0))).trans (ld_c hG2)))) (v_X11_wouldSet_45_5 (F := F) G43 G25 a x40 p3 G p0 p1 p2 x34 x38 hG43 hM z24 t34 t38 t40 ((hF25.2.1 _ (xn1 (xne_k hk9999d hk9999e (by decide)) (xn1 (xne_k hk9999d hk9999f (by decide)) xn0))).trans (ld_c hG2))) (v_X11_wouldSet_45_6 (F := F) G25 a G43 oq25a (lc_c hG43 (xne_k hk9999e hk9999d (by decide)))) (v_X11_wouldSet_45_7 (F := F) G a G25 G43 oq25b ((lc_c hG43 (xne_k hk9999g hk9999d (by decide))).trans ((hF25.2.1 _ (xn1 (xne_k hk9999g hk9999e (by decide)) (xn1 (xne_k hk9999g hk9999f (by decide)) xn0))).trans (ld_c hG2))) (lc_c hG43 (xne_k hk9999f hk9999d (by decide))))) mv_X11_wouldTell km_X11_389 rfl rfl ⟨Nat.le_of_ble_eq_true rfl, Nat.le_of_ble_eq_true rfl⟩ (rc_13 hK hT ha) hK (fun _ => XP.blind) (fun U hU hW => XP.at hK hz hS hT hU hW) rfl hl.1 (Nat.le_of_ble_eq_true rfl) dX11_wouldSet_45 ⟨Nat.le_of_ble_eq_true rfl, Nat.le_of_ble_eq_true rfl⟩) hS ?_
    rintro _ G45 H locs ⟨x45, rfl, hF45, oq45, oq45a, oq45b⟩ hT hS
    have oq45 : AnsM ((G.1 a 6).toInt) x45.toInt (G.2.1 (F a 10)) (mw (G.2.1 (F a 1)) 0) (mw (G43.2.1 (F a 1)) 0) := by simp only [(show G43.1 a 6 = G.1 a 6 from ((lc_d hG43).trans ((hF25.1 _ _ xn0).trans (ld_j hG2 (by decide))))), (show G43.2.1 (F a 10) = G.2.1 (F a 10) from ((lc_c hG43 (xne_k hk9999g hk9999d (by decide))).trans ((hF25.2.1 _ (xn1 (xne_k hk9999g hk9999e (by decide)) (xn1 (xne_k hk9999g hk9999f (by decide)) xn0))).trans (ld_c hG2))))] at oq45; exact oq45
    have oq45a : mw (G45.2.1 (F a 1)) 0 = mw (G25.2.1 (F a 4)) 0 := by simp only [(show G43.2.1 (F a 4) = G25.2.1 (F a 4) from (lc_c hG43 (xne_k hk9999e hk9999d (by decide))))] at oq45a; exact oq45a
    exact x_ri hx hb hr hlk hQ (Nat.le_of_ble_eq_true rfl) (Nat.le_of_ble_eq_true rfl) hS dX11_wouldSet_48 G45 ⟨_, rfl, (XFr.call (by rw [hG43]; exact XFr.cput (XFr.call (by rw [hG2]; exact XFr.dput XFr.rf (List.mem_of_getElem? (i := 4) rfl)) hF25 xm0 (xm1 5 rfl (xm1 6 rfl xm0)) xm0) (List.mem_of_getElem? (i := 4) rfl)) hF45 (xm1 0 rfl (xm1 1 rfl (xm1 2 rfl (xm1 3 rfl xm0)))) (xm1 0 rfl (xm1 1 rfl (xm1 2 rfl (xm1 3 rfl (xm1 4 rfl xm0))))) xm0), (v_X11_wouldSet_48_8 (F := F) G25 a G G45 oq25 oq45a), (v_X11_wouldSet_48_9 (F := F) G45 a oq45b), (v_X11_wouldSet_48_10 (K := K) (F := F) a G G25 G43 x40 p3 x11 p0 p1 p2 x45 x34 x38 ha hG43 hM oq11 oq45 c18 z24 t34 t38 t40 ((hF25.2.1 _ (xn1 (xne_k hk9999d hk9999e (by decide)) (xn1 (xne_k hk9999d hk9999f (by decide)) xn0))).trans (ld_c hG2)))⟩ hT
  · refine lv_iload hx hb dX11_wouldSet_21 (lv_at hl 0 rfl) ?_
    exact x_ri hx hb hr hlk hQ (Nat.le_of_ble_eq_true rfl) (Nat.le_of_ble_eq_true rfl) hS dX11_wouldSet_23 G2 ⟨_, rfl, (by rw [hG2]; exact XFr.dput XFr.rf (List.mem_of_getElem? (i := 4) rfl)), (v_X11_wouldSet_23_11 (F := F) G2 a G (ld_c hG2)), (v_X11_wouldSet_23_12 (F := F) G a G2 hM (ld_c hG2)), (v_X11_wouldSet_23_13 (K := K) (F := F) a G x11 p0 p1 p2 p3 ha oq11 c18)⟩ hT

theorem z_X11_depth_1 (a0 : Int) (a1 : Int) (a2 : Int) (h0 : (a1 = 1 ∧ 0 ≤ a0 ∧ a0 ≤ 11 ∧ a2 ≠ -1) ∨ (a1 = 0 ∧ (¬ (0 ≤ a0 ∧ a0 ≤ 11) ∨ a2 = -1))) (h1 : ¬ (a1 = 0)) : 0 ≤ a0 ∧ a0 ≤ 11 := by omega
theorem z_X11_depth_4 (a0 : Int) (h0 : 0 ≤ a0 ∧ a0 ≤ 31) : ¬ (100 - a0 < ((0 : Nat) : Int)) := by omega
theorem z_X11_depth_7 (a0 : Int) (a1 : Int) (a2 : Int) (a3 : Int) (a4 : Int) (a5 : Int) (h0 : 0 ≤ a4 ∧ a4 ≤ 2) (h1 : 0 ≤ a5 ∧ a5 ≤ 2) (h2 : 0 ≤ a0 ∧ a0 < 30) (h3 : 0 ≤ a4 ∧ a4 ≤ 2 ∧ 0 ≤ a0 ∧ a0 ≤ 29 → a1 = 4 * (30 * a4 + a0)) (h4 : a2 = a1 + (1 : Int) ∨ a1 + (1 : Int) < -2147483648 ∨ 2147483648 ≤ a1 + (1 : Int)) (h5 : a3 = a2 + a5 ∨ a2 + a5 < -2147483648 ∨ 2147483648 ≤ a2 + a5) : 0 ≤ a3 ∧ a3 < ((360 : Nat) : Int) := by omega
theorem z_X11_depth_8 (a0 : Int) (a1 : Int) (a2 : Int) (a3 : Int) (a4 : Int) (a5 : Int) (h0 : 0 ≤ a4 ∧ a4 ≤ 2) (h1 : 0 ≤ a5 ∧ a5 ≤ 2) (h2 : 0 ≤ a0 ∧ a0 < 30) (h3 : 0 ≤ a4 ∧ a4 ≤ 2 ∧ 0 ≤ a0 ∧ a0 ≤ 29 → a1 = 4 * (30 * a4 + a0)) (h4 : a2 = a1 + (1 : Int) ∨ a1 + (1 : Int) < -2147483648 ∨ 2147483648 ≤ a1 + (1 : Int)) (h5 : a3 = a2 + a5 ∨ a2 + a5 < -2147483648 ∨ 2147483648 ≤ a2 + a5) : a3 = 4 * (30 * a4 + a0) + 1 + a5 := by omega
theorem z_X11_depth_9 (a0 : Int) (a1 : Int) (a2 : Int) (h0 : 0 ≤ a1 ∧ a1 ≤ 2) (h1 : 0 ≤ a2 ∧ a2 ≤ 2) (h2 : 0 ≤ a0 ∧ a0 < 30) : (0 ≤ a1 ∧ a1 < 3) ∧ (0 ≤ a0 ∧ a0 < 30) ∧ (0 ≤ a2 ∧ a2 < 3) := by omega
theorem z_X11_depth_12 (a0 : Int) (a1 : Int) (h0 : 0 ≤ a0 ∧ a0 ≤ 31) (h1 : a1 = (a0 + 1) ∨ (a0 + 1) < -2147483648 ∨ 2147483648 ≤ (a0 + 1)) : a1 = (a0 + 1) := by omega
theorem z_X11_depth_13 (a0 : Int) (h0 : 0 ≤ a0 ∧ a0 ≤ 31) (h1 : ¬ ((30 : Int) < a0)) : 0 ≤ (a0 + 1) ∧ (a0 + 1) ≤ 31 := by omega
theorem z_X11_depth_14 (a0 : Int) (a1 : Int) (a2 : Int) (a3 : Int) (h0 : (a0 = 1 ∧ a3 ≠ -2000) ∨ (a0 = 0 ∧ a3 = -2000)) (h1 : ¬ (0 ≤ a2 ∧ a2 < 3 ∧ 0 ≤ a1 ∧ a1 < 30) → a3 = -2000) (h2 : a0 ≠ 0) : 0 ≤ a1 ∧ a1 < 30 := by omega
theorem z_X11_depth_15 (a0 : Int) (a1 : Int) (h0 : (a0 = 1 ∧ a1 ≠ -2000) ∨ (a0 = 0 ∧ a1 = -2000)) (h1 : a0 ≠ 0) : a1 ≠ -2000 := by omega
theorem z_X11_depth_16 (a0 : Int) (a1 : Nat) (h0 : 100 - a0 < ((a1 + 1 : Nat) : Int)) : 100 - (a0 + 1) < ((a1 : Nat) : Int) := by omega
theorem z_X11_depth_17 (a0 : Int) (a1 : Int) (a2 : Int) (a3 : Int) (h0 : (a1 = 1 ∧ a3 ≠ -2000) ∨ (a1 = 0 ∧ a3 = -2000)) (h1 : a1 ≠ 0) (h2 : ¬ (0 ≤ a2 ∧ a2 < 3 ∧ 0 ≤ a0 ∧ a0 < 30) → a3 = -2000) : 0 ≤ a0 ∧ a0 < 30 := by omega
abbrev rm_X11_depth : Room := { frames := 3, cells := 0, slots := 0, locals := 67 }
set_option maxHeartbeats 4000000 in
set_option maxRecDepth 100000 in
theorem c_X11_depth (l : Launch) (E : XE) (K : Nat → Nat) (F : Nat → Nat → Nat) (G : XG) (a : Nat) (p0 : Int32) (p1 : Int32) (ha : K a = 13) (hR : RV (G.2.1 (F a 10))) (hM : RM (G.2.1 (F a 1)) (0)) : Met l yX11_depth (xw yX11_depth cX11_depth 6 (some .int)) rm_X11_depth (va_Pc [.ref a, .int p0, .int p1] (XP E K F G)) (XQ E (fun v (u : XG) => ∃ r : Int32, v = .int r ∧ XFr [(a, 0)] [] [] G u ∧ ((¬ (0 ≤ p0.toInt ∧ p0.toInt ≤ 11 ∧ aI (G.2.1 (F a 10)) (10 * p0.toInt + 0) ≠ -1) ∧ r.toInt = -1) ∨ ((0 ≤ p0.toInt ∧ p0.toInt ≤ 11 ∧ aI (G.2.1 (F a 10)) (10 * p0.toInt + 0) ≠ -1) ∧ r.toInt = dpS (mw (G.2.1 (F a 1)) 0) (aI (G.2.1 (F a 10)) (10 * p0.toInt + 0)) (aI (G.2.1 (F a 10)) (10 * p0.toInt + 1)) (aI (G.2.1 (F a 10)) (10 * p0.toInt + 2)) p1.toInt))) (fun u H => TW E K F u H)) 0 0 (xA E) := by
  refine x_enter (by decide) (Nat.le_of_ble_eq_true rfl) ?_
  intro p e s m args below meth c Q S hr hlk hnm hQ hP ls hl
  obtain ⟨hz, hK, hT⟩ := hP
  obtain ⟨hx, hb, -, -, -⟩ := id S
  obtain ⟨H, hT, hS, hgo⟩ : ∃ H : Heap, TW E K F G H ∧ va_S (xA E) s.heap H [] ∧ H = s.heap := ⟨_, hT, va_S.rf, rfl⟩
  rw [← hgo]
  have hl : lv_has ls 6 [(0, .ref a), (1, .int p0), (2, .int p1)] := hl
  obtain ⟨hk9999, hj9999⟩ := fkX11_10 hT ha
  obtain ⟨hk9999a, hj9999a⟩ := fkX11_1 hT ha
  refine lv_aload_n hx hb dX11_depth_0 rfl (lv_at hl 0 rfl) ?_
  refine lv_iconst (v := 0) hx hb dX11_depth_1 (by decide) ?_
  refine pX11_0 (v := 0) S hK hT hS ha kf_X11_134 dX11_depth_2 (fun H locs hT hS => ?_)
  obtain ⟨G2, hG2⟩ : ∃ GG : XG, GG = dput G a 0 0 := ⟨_, rfl⟩
  rw [← hG2] at hT
  refine lv_aload_n hx hb dX11_depth_5 rfl (lv_at hl 0 rfl) ?_
  refine lv_iload_n hx hb dX11_depth_6 rfl (lv_at hl 1 rfl) ?_
  refine x_clp (x_runV (b := a) (As := [.int p0]) (rest := []) S (c_X11_isRule l E K F G2 H a p0 ha) mv_X11_isRule km_X11_162 rfl rfl ⟨Nat.le_of_ble_eq_true rfl, Nat.le_of_ble_eq_true rfl⟩ (rc_13 hK hT ha) hK (fun _ => XPh.blind) (fun U hU hW => XPh.at hK hz hS hT hU hW) rfl hl.1 (Nat.le_of_ble_eq_true rfl) dX11_depth_7 ⟨Nat.le_of_ble_eq_true rfl, Nat.le_of_ble_eq_true rfl⟩) hS ?_
  rintro _ _ locs ⟨x7, rfl, b7, t7⟩ hS
  have t7 : (x7.toInt = 1 ∧ 0 ≤ p0.toInt ∧ p0.toInt ≤ 11 ∧ (aI (G.2.1 (F a 10)) (10 * p0.toInt + 0)) ≠ -1) ∨ (x7.toInt = 0 ∧ (¬ (0 ≤ p0.toInt ∧ p0.toInt ≤ 11) ∨ (aI (G.2.1 (F a 10)) (10 * p0.toInt + 0)) = -1)) := by rw [(show G2.2.1 (F a 10) = G.2.1 (F a 10) from (ld_c hG2))] at t7; exact t7
  refine xi_zeq (tgt := 37) hx hb (rfl : Int32.toInt x7 = x7.toInt) dX11_depth_10 (by decide) (fun c10 => ?_) (fun c10 => ?_)
  · refine lv_iconst (v := (-1)) hx hb dX11_depth_37 (by decide) ?_
    exact x_ri hx hb hr hlk hQ (Nat.le_of_ble_eq_true rfl) (Nat.le_of_ble_eq_true rfl) hS dX11_depth_38 G2 ⟨_, rfl, (by rw [hG2]; exact XFr.dput XFr.rf (List.mem_of_getElem? (i := 0) rfl)), (by rw [((by decide) : Int32.toInt (-1) = (-1 : Int))] <;> exact (v_X11_depth_38_1 (K := K) (F := F) a G x7 p0 p1 ha t7 c10))⟩ hT
  · have z13 : (-1 ≤ (aI (G.2.1 (F a 10)) (10 * p0.toInt + 0)) ∧ (aI (G.2.1 (F a 10)) (10 * p0.toInt + 0)) ≤ 5) ∧ (0 ≤ (aI (G.2.1 (F a 10)) (10 * p0.toInt + 1)) ∧ (aI (G.2.1 (F a 10)) (10 * p0.toInt + 1)) ≤ 2) ∧ (0 ≤ (aI (G.2.1 (F a 10)) (10 * p0.toInt + 2)) ∧ (aI (G.2.1 (F a 10)) (10 * p0.toInt + 2)) ≤ 2) ∧ (-1 ≤ (aI (G.2.1 (F a 10)) (10 * p0.toInt + 3)) ∧ (aI (G.2.1 (F a 10)) (10 * p0.toInt + 3)) ≤ 2) ∧ ((aI (G.2.1 (F a 10)) (10 * p0.toInt + 0)) = 1 ∨ (aI (G.2.1 (F a 10)) (10 * p0.toInt + 0)) = 3 ∨ (aI (G.2.1 (F a 10)) (10 * p0.toInt + 0)) = 4 → 0 ≤ (aI (G.2.1 (F a 10)) (10 * p0.toInt + 3))) := RV.row hR (z_X11_depth_1 p0.toInt x7.toInt (aI (G.2.1 (F a 10)) (10 * p0.toInt + 0)) t7 c10)
    refine lv_aload_n hx hb dX11_depth_13 rfl (lv_at hl 0 rfl) ?_
    refine lv_iload_n hx hb dX11_depth_14 rfl (lv_at hl 1 rfl) ?_
    refine lv_iconst (v := 0) hx hb dX11_depth_15 (by decide) ?_
    refine x_clp (x_runV (b := a) (As := [.int p0, .int 0]) (rest := []) S (c_X11_of l E K F G2 H a p0 0 ha (z_X11_depth_1 p0.toInt x7.toInt (aI (G.2.1 (F a 10)) (10 * p0.toInt + 0)) t7 c10) (by decide)) mv_X11_of km_X11_165 rfl rfl ⟨Nat.le_of_ble_eq_true rfl, Nat.le_of_ble_eq_true rfl⟩ (rc_13 hK hT ha) hK (fun _ => XPh.blind) (fun U hU hW => XPh.at hK hz hS hT hU hW) rfl hl.1 (Nat.le_of_ble_eq_true rfl) dX11_depth_16 ⟨Nat.le_of_ble_eq_true rfl, Nat.le_of_ble_eq_true rfl⟩) hS ?_
    rintro _ _ locs ⟨x16, rfl, t16⟩ hS
    have t16 : x16.toInt = (aI (G.2.1 (F a 10)) (10 * p0.toInt + 0)) := by rw [(show G2.2.1 (F a 10) = G.2.1 (F a 10) from (ld_c hG2))] at t16; exact t16
    refine lv_iconst (v := 5) hx hb dX11_depth_19 (by decide) ?_
    refine xi_cne (tgt := 37) hx hb (t16 : Int32.toInt x16 = (aI (G.2.1 (F a 10)) (10 * p0.toInt + 0))) ((by decide) : Int32.toInt 5 = (5 : Int)) dX11_depth_20 (by decide) (fun c20 => ?_) (fun c20 => ?_)
    · refine lv_iconst (v := (-1)) hx hb dX11_depth_37 (by decide) ?_
      exact x_ri hx hb hr hlk hQ (Nat.le_of_ble_eq_true rfl) (Nat.le_of_ble_eq_true rfl) hS dX11_depth_38 G2 ⟨_, rfl, (by rw [hG2]; exact XFr.dput XFr.rf (List.mem_of_getElem? (i := 0) rfl)), (by rw [((by decide) : Int32.toInt (-1) = (-1 : Int))] <;> exact (v_X11_depth_38_2 (K := K) (F := F) a G p0 x7 p1 ha t7 c10 z13 c20))⟩ hT
    · refine lv_aload_n hx hb dX11_depth_23 rfl (lv_at hl 0 rfl) ?_
      refine lv_aload_n hx hb dX11_depth_24 rfl (lv_at hl 0 rfl) ?_
      refine lv_iload_n hx hb dX11_depth_25 rfl (lv_at hl 1 rfl) ?_
      refine lv_iconst (v := 1) hx hb dX11_depth_26 (by decide) ?_
      refine x_clp (x_runV (b := a) (As := [.int p0, .int 1]) (rest := [.ref a]) S (c_X11_of l E K F G2 H a p0 1 ha (z_X11_depth_1 p0.toInt x7.toInt (aI (G.2.1 (F a 10)) (10 * p0.toInt + 0)) t7 c10) (by decide)) mv_X11_of km_X11_165 rfl rfl ⟨Nat.le_of_ble_eq_true rfl, Nat.le_of_ble_eq_true rfl⟩ (rc_13 hK hT ha) hK (fun _ => XPh.blind) (fun U hU hW => XPh.at hK hz hS hT hU hW) rfl hl.1 (Nat.le_of_ble_eq_true rfl) dX11_depth_27 ⟨Nat.le_of_ble_eq_true rfl, Nat.le_of_ble_eq_true rfl⟩) hS ?_
      rintro _ _ locs ⟨x27, rfl, t27⟩ hS
      have t27 : x27.toInt = (aI (G.2.1 (F a 10)) (10 * p0.toInt + 1)) := by rw [(show G2.2.1 (F a 10) = G.2.1 (F a 10) from (ld_c hG2))] at t27; exact t27
      refine lv_iload_n hx hb dX11_depth_30 rfl (lv_at hl 2 rfl) ?_
      refine x_clp (x_runV (b := a) (As := [.int x27, .int p1]) (rest := []) S (c_X11_isRow l E K F G2 H a x27 p1 ha (v_X11_depth_31_3 (F := F) a G2 G hM (ld_c hG2))) mv_X11_isRow km_X11_346 rfl rfl ⟨Nat.le_of_ble_eq_true rfl, Nat.le_of_ble_eq_true rfl⟩ (rc_13 hK hT ha) hK (fun _ => XPh.blind) (fun U hU hW => XPh.at hK hz hS hT hU hW) rfl hl.1 (Nat.le_of_ble_eq_true rfl) dX11_depth_31 ⟨Nat.le_of_ble_eq_true rfl, Nat.le_of_ble_eq_true rfl⟩) hS ?_
      rintro _ _ locs ⟨x31, rfl, b31, t31⟩ hS
      have t31 : (x31.toInt = 1 ∧ (cel (mw (G.2.1 (F a 1)) 0) (aI (G.2.1 (F a 10)) (10 * p0.toInt + 1)) (p1.toInt) 0) ≠ -2000) ∨ (x31.toInt = 0 ∧ (cel (mw (G.2.1 (F a 1)) 0) (aI (G.2.1 (F a 10)) (10 * p0.toInt + 1)) (p1.toInt) 0) = -2000) := by rw [(t27 : Int32.toInt x27 = (aI (G.2.1 (F a 10)) (10 * p0.toInt + 1)))] at t31; rw [(show G2.2.1 (F a 1) = G.2.1 (F a 1) from (ld_c hG2))] at t31; exact t31
      refine xi_zne (tgt := 39) hx hb (rfl : Int32.toInt x31 = x31.toInt) dX11_depth_34 (by decide) (fun c34 => ?_) (fun c34 => ?_)
      · have z39 : ¬ (0 ≤ (aI (G.2.1 (F a 10)) (10 * p0.toInt + 1)) ∧ (aI (G.2.1 (F a 10)) (10 * p0.toInt + 1)) < 3 ∧ 0 ≤ p1.toInt ∧ p1.toInt < 30) → (cel (mw (G.2.1 (F a 1)) 0) (aI (G.2.1 (F a 10)) (10 * p0.toInt + 1)) (p1.toInt) 0) = -2000 := fun h9 => cel_out (by omega)
        refine lv_iconst (v := 0) hx hb dX11_depth_39 (by decide) ?_
        refine lv_istore_n (lv' := [(3, .int 0), (0, .ref a), (1, .int p0), (2, .int p1)]) hx hb dX11_depth_40 rfl hl (by decide) rfl (fun ls hl => ?_)
        refine lv_iload_n hx hb dX11_depth_41 rfl (lv_at hl 3 rfl) ?_
        refine lv_istore (lv' := [(4, .int p1), (3, .int 0), (0, .ref a), (1, .int p0), (2, .int p1)]) hx hb dX11_depth_42 hl (by decide) rfl (fun ls hl => ?_)
        have L44 : ∀ (N44 : Nat) (l3_44 : Int32) (l4_44 : Int32) (H : Heap) (locs : List Loc) (ls : Array Slot), dpF (mw (G.2.1 (F a 1)) 0) (aI (G.2.1 (F a 10)) (10 * p0.toInt + 1)) (aI (G.2.1 (F a 10)) (10 * p0.toInt + 2)) 31 0 (p1.toInt) = dpF (mw (G.2.1 (F a 1)) 0) (aI (G.2.1 (F a 10)) (10 * p0.toInt + 1)) (aI (G.2.1 (F a 10)) (10 * p0.toInt + 2)) (31 - l3_44.toInt).toNat (l3_44.toInt) (l4_44.toInt) → 0 ≤ l3_44.toInt ∧ l3_44.toInt ≤ 31 → 0 ≤ l4_44.toInt ∧ l4_44.toInt < 30 → (cel (mw (G.2.1 (F a 1)) 0) (aI (G.2.1 (F a 10)) (10 * p0.toInt + 1)) (l4_44.toInt) 0) ≠ -2000 → 100 - l3_44.toInt < ((N44 : Nat) : Int) → TW E K F G2 H → va_S (xA E) s.heap H locs → lv_has ls 6 [(0, .ref a), (1, .int p0), (3, .int l3_44), (4, .int l4_44)] → W p l e rm_X11_depth s m args below meth c H locs 0 0 Q (F0 m 44 ls []) := by
          intro N44
          induction N44 with
          | zero =>
            intro l3_44 l4_44 H locs ls dp I44_0 I44_1 I44_2 hm44
            exact absurd hm44 (z_X11_depth_4 l3_44.toInt I44_0)
          | succ N44 ih44 =>
            intro l3_44 l4_44 H locs ls dp I44_0 I44_1 I44_2 hm44 hT hS hl
            refine lv_iload_n hx hb dX11_depth_44 rfl (lv_at hl 2 rfl) ?_
            refine lv_bipush (v := 30) hx hb dX11_depth_45 (by decide) ?_
            refine xi_cgt (tgt := 104) hx hb (rfl : Int32.toInt l3_44 = l3_44.toInt) ((by decide) : Int32.toInt 30 = (30 : Int)) dX11_depth_47 (by decide) (fun c47 => ?_) (fun c47 => ?_)
            · refine lv_bipush (v := (-2)) hx hb dX11_depth_104 (by decide) ?_
              exact x_ri hx hb hr hlk hQ (Nat.le_of_ble_eq_true rfl) (Nat.le_of_ble_eq_true rfl) hS dX11_depth_106 G2 ⟨_, rfl, (by rw [hG2]; exact XFr.dput XFr.rf (List.mem_of_getElem? (i := 0) rfl)), (by rw [((by decide) : Int32.toInt (-2) = (-2 : Int))] <;> exact (v_X11_depth_106_4 (K := K) (F := F) a G p0 p1 l3_44 l4_44 x7 x31 N44 ha dp t7 c10 z13 c20 t31 c34 z39 I44_0 I44_1 I44_2 hm44 c47))⟩ hT
            · refine lv_aload_n hx hb dX11_depth_50 rfl (lv_at hl 0 rfl) ?_
              refine gX11_1 S hK hT ha kf_X11_9 dX11_depth_51 (fun _ _ => ?_)
              refine lv_aload_n hx hb dX11_depth_54 rfl (lv_at hl 0 rfl) ?_
              refine lv_iload_n hx hb dX11_depth_55 rfl (lv_at hl 1 rfl) ?_
              refine lv_iconst (v := 1) hx hb dX11_depth_56 (by decide) ?_
              refine x_clp (x_runV (b := a) (As := [.int p0, .int 1]) (rest := [.ref (F a 1)]) S (c_X11_of l E K F G2 H a p0 1 ha (z_X11_depth_1 p0.toInt x7.toInt (aI (G.2.1 (F a 10)) (10 * p0.toInt + 0)) t7 c10) (by decide)) mv_X11_of km_X11_165 rfl rfl ⟨Nat.le_of_ble_eq_true rfl, Nat.le_of_ble_eq_true rfl⟩ (rc_13 hK hT ha) hK (fun _ => XPh.blind) (fun U hU hW => XPh.at hK hz hS hT hU hW) rfl hl.1 (Nat.le_of_ble_eq_true rfl) dX11_depth_57 ⟨Nat.le_of_ble_eq_true rfl, Nat.le_of_ble_eq_true rfl⟩) hS ?_
              rintro _ _ locs ⟨x57, rfl, t57⟩ hS
              have t57 : x57.toInt = (aI (G.2.1 (F a 10)) (10 * p0.toInt + 1)) := by rw [(show G2.2.1 (F a 10) = G.2.1 (F a 10) from (ld_c hG2))] at t57; exact t57
              refine lv_iload hx hb dX11_depth_60 (lv_at hl 3 rfl) ?_
              refine x_clp (x_runS (As := [.int x57, .int l4_44]) (rest := [.ref (F a 1)]) S (c_X11_at l E K F G2 H x57 l4_44) ms_X11_at km_X11_156 rfl rfl ⟨Nat.le_of_ble_eq_true rfl, Nat.le_of_ble_eq_true rfl⟩ hK (fun _ => XPh.blind) (fun U hU hW => XPh.at hK hz hS hT hU hW) rfl hl.1 (Nat.le_of_ble_eq_true rfl) dX11_depth_62 ⟨Nat.le_of_ble_eq_true rfl, Nat.le_of_ble_eq_true rfl⟩) hS ?_
              rintro _ _ locs ⟨x62, rfl, t62⟩ hS
              have t62 : 0 ≤ (aI (G.2.1 (F a 10)) (10 * p0.toInt + 1)) ∧ (aI (G.2.1 (F a 10)) (10 * p0.toInt + 1)) ≤ 2 ∧ 0 ≤ l4_44.toInt ∧ l4_44.toInt ≤ 29 → x62.toInt = 4 * (30 * (aI (G.2.1 (F a 10)) (10 * p0.toInt + 1)) + l4_44.toInt) := by rw [(t57 : Int32.toInt x57 = (aI (G.2.1 (F a 10)) (10 * p0.toInt + 1)))] at t62; exact t62
              refine lv_iconst (v := 1) hx hb dX11_depth_65 (by decide) ?_
              refine xi_iadd hx hb (rfl : Int32.toInt x62 = x62.toInt) ((by decide) : Int32.toInt 1 = (1 : Int)) dX11_depth_66 (fun x66 t66 => ?_)
              refine lv_aload_n hx hb dX11_depth_67 rfl (lv_at hl 0 rfl) ?_
              refine lv_iload_n hx hb dX11_depth_68 rfl (lv_at hl 1 rfl) ?_
              refine lv_iconst (v := 2) hx hb dX11_depth_69 (by decide) ?_
              refine x_clp (x_runV (b := a) (As := [.int p0, .int 2]) (rest := [.int x66, .ref (F a 1)]) S (c_X11_of l E K F G2 H a p0 2 ha (z_X11_depth_1 p0.toInt x7.toInt (aI (G.2.1 (F a 10)) (10 * p0.toInt + 0)) t7 c10) (by decide)) mv_X11_of km_X11_165 rfl rfl ⟨Nat.le_of_ble_eq_true rfl, Nat.le_of_ble_eq_true rfl⟩ (rc_13 hK hT ha) hK (fun _ => XPh.blind) (fun U hU hW => XPh.at hK hz hS hT hU hW) rfl hl.1 (Nat.le_of_ble_eq_true rfl) dX11_depth_70 ⟨Nat.le_of_ble_eq_true rfl, Nat.le_of_ble_eq_true rfl⟩) hS ?_
              rintro _ _ locs ⟨x70, rfl, t70⟩ hS
              have t70 : x70.toInt = (aI (G.2.1 (F a 10)) (10 * p0.toInt + 2)) := by rw [(show G2.2.1 (F a 10) = G.2.1 (F a 10) from (ld_c hG2))] at t70; exact t70
              refine xi_iadd hx hb (rfl : Int32.toInt x66 = x66.toInt) (t70 : Int32.toInt x70 = (aI (G.2.1 (F a 10)) (10 * p0.toInt + 2))) dX11_depth_73 (fun x73 t73 => ?_)
              refine al_0 S hK hT hk9999a ar_30 (by decide) (z_X11_depth_7 l4_44.toInt x62.toInt x66.toInt x73.toInt (aI (G.2.1 (F a 10)) (10 * p0.toInt + 1)) (aI (G.2.1 (F a 10)) (10 * p0.toInt + 2)) (z13).2.1 (z13).2.2.1 I44_1 t62 t66 t73) dX11_depth_74 (fun x74 hv74 o74 => ?_)
              have hv74 : x74.toInt = (aI (G.2.1 (F a 1)) (4 * (30 * (aI (G.2.1 (F a 10)) (10 * p0.toInt + 1)) + l4_44.toInt) + 1 + (aI (G.2.1 (F a 10)) (10 * p0.toInt + 2)))) := hv74.trans (by rw [((rfl : Int32.toInt x73 = x73.toInt).trans (z_X11_depth_8 l4_44.toInt x62.toInt x66.toInt x73.toInt (aI (G.2.1 (F a 10)) (10 * p0.toInt + 1)) (aI (G.2.1 (F a 10)) (10 * p0.toInt + 2)) (z13).2.1 (z13).2.2.1 I44_1 t62 t66 t73)), ((ld_c hG2) : G2.2.1 (F a 1) = G.2.1 (F a 1))])
              refine lv_istore (lv' := [(5, .int x74), (0, .ref a), (1, .int p0), (3, .int l3_44), (4, .int l4_44)]) hx hb dX11_depth_75 hl (by decide) rfl (fun ls hl => ?_)
              have z77 : (aI (G.2.1 (F a 1)) (4 * (30 * (aI (G.2.1 (F a 10)) (10 * p0.toInt + 1)) + l4_44.toInt) + 1 + (aI (G.2.1 (F a 10)) (10 * p0.toInt + 2)))) = (cel (mw (G.2.1 (F a 1)) 0) (aI (G.2.1 (F a 10)) (10 * p0.toInt + 1)) (l4_44.toInt) (aI (G.2.1 (F a 10)) (10 * p0.toInt + 2))) := hM.cel0 (z_X11_depth_9 l4_44.toInt (aI (G.2.1 (F a 10)) (10 * p0.toInt + 1)) (aI (G.2.1 (F a 10)) (10 * p0.toInt + 2)) (z13).2.1 (z13).2.2.1 I44_1) (I44_2)
              refine lv_aload_n hx hb dX11_depth_77 rfl (lv_at hl 1 rfl) ?_
              refine lv_aload_n hx hb dX11_depth_78 rfl (lv_at hl 1 rfl) ?_
              refine lv_iload_n hx hb dX11_depth_79 rfl (lv_at hl 2 rfl) ?_
              refine lv_iconst (v := 1) hx hb dX11_depth_80 (by decide) ?_
              refine x_clp (x_runV (b := a) (As := [.int p0, .int 1]) (rest := [.ref a]) S (c_X11_of l E K F G2 H a p0 1 ha (z_X11_depth_1 p0.toInt x7.toInt (aI (G.2.1 (F a 10)) (10 * p0.toInt + 0)) t7 c10) (by decide)) mv_X11_of km_X11_165 rfl rfl ⟨Nat.le_of_ble_eq_true rfl, Nat.le_of_ble_eq_true rfl⟩ (rc_13 hK hT ha) hK (fun _ => XPh.blind) (fun U hU hW => XPh.at hK hz hS hT hU hW) rfl hl.1 (Nat.le_of_ble_eq_true rfl) dX11_depth_81 ⟨Nat.le_of_ble_eq_true rfl, Nat.le_of_ble_eq_true rfl⟩) hS ?_
              rintro _ _ locs ⟨x81, rfl, t81⟩ hS
              have t81 : x81.toInt = (aI (G.2.1 (F a 10)) (10 * p0.toInt + 1)) := by rw [(show G2.2.1 (F a 10) = G.2.1 (F a 10) from (ld_c hG2))] at t81; exact t81
              refine lv_iload hx hb dX11_depth_84 (lv_at hl 0 rfl) ?_
              refine x_clp (x_runV (b := a) (As := [.int x81, .int x74]) (rest := []) S (c_X11_isRow l E K F G2 H a x81 x74 ha (v_X11_depth_86_5 (F := F) a G2 G hM (ld_c hG2))) mv_X11_isRow km_X11_346 rfl rfl ⟨Nat.le_of_ble_eq_true rfl, Nat.le_of_ble_eq_true rfl⟩ (rc_13 hK hT ha) hK (fun _ => XPh.blind) (fun U hU hW => XPh.at hK hz hS hT hU hW) rfl hl.1 (Nat.le_of_ble_eq_true rfl) dX11_depth_86 ⟨Nat.le_of_ble_eq_true rfl, Nat.le_of_ble_eq_true rfl⟩) hS ?_
              rintro _ _ locs ⟨x86, rfl, b86, t86⟩ hS
              have t86 : (x86.toInt = 1 ∧ (cel (mw (G.2.1 (F a 1)) 0) (aI (G.2.1 (F a 10)) (10 * p0.toInt + 1)) (aI (G.2.1 (F a 1)) (4 * (30 * (aI (G.2.1 (F a 10)) (10 * p0.toInt + 1)) + l4_44.toInt) + 1 + (aI (G.2.1 (F a 10)) (10 * p0.toInt + 2)))) 0) ≠ -2000) ∨ (x86.toInt = 0 ∧ (cel (mw (G.2.1 (F a 1)) 0) (aI (G.2.1 (F a 10)) (10 * p0.toInt + 1)) (aI (G.2.1 (F a 1)) (4 * (30 * (aI (G.2.1 (F a 10)) (10 * p0.toInt + 1)) + l4_44.toInt) + 1 + (aI (G.2.1 (F a 10)) (10 * p0.toInt + 2)))) 0) = -2000) := by rw [(t81 : Int32.toInt x81 = (aI (G.2.1 (F a 10)) (10 * p0.toInt + 1)))] at t86; rw [(hv74 : Int32.toInt x74 = (aI (G.2.1 (F a 1)) (4 * (30 * (aI (G.2.1 (F a 10)) (10 * p0.toInt + 1)) + l4_44.toInt) + 1 + (aI (G.2.1 (F a 10)) (10 * p0.toInt + 2)))))] at t86; rw [(show G2.2.1 (F a 1) = G.2.1 (F a 1) from (ld_c hG2))] at t86; exact t86
              have z89 : ¬ (0 ≤ (aI (G.2.1 (F a 10)) (10 * p0.toInt + 1)) ∧ (aI (G.2.1 (F a 10)) (10 * p0.toInt + 1)) < 3 ∧ 0 ≤ (aI (G.2.1 (F a 1)) (4 * (30 * (aI (G.2.1 (F a 10)) (10 * p0.toInt + 1)) + l4_44.toInt) + 1 + (aI (G.2.1 (F a 10)) (10 * p0.toInt + 2)))) ∧ (aI (G.2.1 (F a 1)) (4 * (30 * (aI (G.2.1 (F a 10)) (10 * p0.toInt + 1)) + l4_44.toInt) + 1 + (aI (G.2.1 (F a 10)) (10 * p0.toInt + 2)))) < 30) → (cel (mw (G.2.1 (F a 1)) 0) (aI (G.2.1 (F a 10)) (10 * p0.toInt + 1)) (aI (G.2.1 (F a 1)) (4 * (30 * (aI (G.2.1 (F a 10)) (10 * p0.toInt + 1)) + l4_44.toInt) + 1 + (aI (G.2.1 (F a 10)) (10 * p0.toInt + 2)))) 0) = -2000 := fun h9 => cel_out (by omega)
              refine xi_zne (tgt := 94) hx hb (rfl : Int32.toInt x86 = x86.toInt) dX11_depth_89 (by decide) (fun c89 => ?_) (fun c89 => ?_)
              · refine xi_iinc (n := 1) (lv' := fun z9 => [(3, .int z9), (5, .int x74), (0, .ref a), (1, .int p0), (4, .int l4_44)]) (k := 3) hx hb (rfl : Int32.toInt l3_44 = l3_44.toInt) (by decide) dX11_depth_94 hl rfl (by decide) (fun _ => rfl) (fun x94 ls t94 hl => ?_)
                have e94 : x94.toInt = (l3_44.toInt + 1) := (z_X11_depth_12 l3_44.toInt x94.toInt I44_0 t94)
                have hl : lv_has ls 6 [(3, .int x94), (5, .int x74), (0, .ref a), (1, .int p0), (4, .int l4_44)] := hl
                refine lv_iload hx hb dX11_depth_97 (lv_at hl 1 rfl) ?_
                refine lv_istore (lv' := [(4, .int x74), (3, .int x94), (5, .int x74), (0, .ref a), (1, .int p0)]) hx hb dX11_depth_99 hl (by decide) rfl (fun ls hl => ?_)
                refine lv_goto (tgt := 44) hx hb dX11_depth_101 (by decide) ?_
                exact ih44 x94 x74 _ _ _ (by rw [(e94 : Int32.toInt x94 = (l3_44.toInt + 1)), (hv74 : Int32.toInt x74 = (aI (G.2.1 (F a 1)) (4 * (30 * (aI (G.2.1 (F a 10)) (10 * p0.toInt + 1)) + l4_44.toInt) + 1 + (aI (G.2.1 (F a 10)) (10 * p0.toInt + 2)))))] <;> exact (v_X11_depth_101_6 (K := K) (F := F) a G p0 p1 l3_44 l4_44 x7 x31 N44 x62 x86 ha dp t7 c10 z13 c20 t31 c34 z39 I44_0 I44_1 I44_2 hm44 c47 t62 z77 t86 z89 c89)) (by rw [(e94 : Int32.toInt x94 = (l3_44.toInt + 1))] <;> exact (z_X11_depth_13 l3_44.toInt I44_0 c47)) (by rw [(hv74 : Int32.toInt x74 = (aI (G.2.1 (F a 1)) (4 * (30 * (aI (G.2.1 (F a 10)) (10 * p0.toInt + 1)) + l4_44.toInt) + 1 + (aI (G.2.1 (F a 10)) (10 * p0.toInt + 2)))))] <;> exact (z_X11_depth_14 x86.toInt (aI (G.2.1 (F a 1)) (4 * (30 * (aI (G.2.1 (F a 10)) (10 * p0.toInt + 1)) + l4_44.toInt) + 1 + (aI (G.2.1 (F a 10)) (10 * p0.toInt + 2)))) (aI (G.2.1 (F a 10)) (10 * p0.toInt + 1)) (cel (mw (G.2.1 (F a 1)) 0) (aI (G.2.1 (F a 10)) (10 * p0.toInt + 1)) (aI (G.2.1 (F a 1)) (4 * (30 * (aI (G.2.1 (F a 10)) (10 * p0.toInt + 1)) + l4_44.toInt) + 1 + (aI (G.2.1 (F a 10)) (10 * p0.toInt + 2)))) 0) t86 z89 c89)) (by rw [(hv74 : Int32.toInt x74 = (aI (G.2.1 (F a 1)) (4 * (30 * (aI (G.2.1 (F a 10)) (10 * p0.toInt + 1)) + l4_44.toInt) + 1 + (aI (G.2.1 (F a 10)) (10 * p0.toInt + 2)))))] <;> exact (z_X11_depth_15 x86.toInt (cel (mw (G.2.1 (F a 1)) 0) (aI (G.2.1 (F a 10)) (10 * p0.toInt + 1)) (aI (G.2.1 (F a 1)) (4 * (30 * (aI (G.2.1 (F a 10)) (10 * p0.toInt + 1)) + l4_44.toInt) + 1 + (aI (G.2.1 (F a 10)) (10 * p0.toInt + 2)))) 0) t86 c89)) (by rw [(e94 : Int32.toInt x94 = (l3_44.toInt + 1))] <;> exact (z_X11_depth_16 l3_44.toInt N44 hm44)) hT hS (lv_sub hl [3, 4, 1, 0] rfl)
              · refine lv_iload_n hx hb dX11_depth_92 rfl (lv_at hl 3 rfl) ?_
                exact x_ri hx hb hr hlk hQ (Nat.le_of_ble_eq_true rfl) (Nat.le_of_ble_eq_true rfl) hS dX11_depth_93 G2 ⟨_, rfl, (by rw [hG2]; exact XFr.dput XFr.rf (List.mem_of_getElem? (i := 0) rfl)), (v_X11_depth_93_7 (K := K) (F := F) a G p0 p1 l3_44 l4_44 x7 x31 N44 x62 x86 ha dp t7 c10 z13 c20 t31 c34 z39 I44_0 I44_1 I44_2 hm44 c47 t62 z77 t86 z89 c89)⟩ hT
        exact L44 4294967297 0 p1 _ _ _ (v_X11_depth_42_8 (F := F) a G p0 p1) (by decide) (z_X11_depth_17 p1.toInt x31.toInt (aI (G.2.1 (F a 10)) (10 * p0.toInt + 1)) (cel (mw (G.2.1 (F a 1)) 0) (aI (G.2.1 (F a 10)) (10 * p0.toInt + 1)) (p1.toInt) 0) t31 c34 z39) (z_X11_depth_15 x31.toInt (cel (mw (G.2.1 (F a 1)) 0) (aI (G.2.1 (F a 10)) (10 * p0.toInt + 1)) (p1.toInt) 0) t31 c34) (by decide) hT hS (lv_sub hl [2, 3, 1, 0] rfl)
      · refine lv_iconst (v := (-1)) hx hb dX11_depth_37 (by decide) ?_
        exact x_ri hx hb hr hlk hQ (Nat.le_of_ble_eq_true rfl) (Nat.le_of_ble_eq_true rfl) hS dX11_depth_38 G2 ⟨_, rfl, (by rw [hG2]; exact XFr.dput XFr.rf (List.mem_of_getElem? (i := 0) rfl)), (by rw [((by decide) : Int32.toInt (-1) = (-1 : Int))] <;> exact (v_X11_depth_38_9 (K := K) (F := F) a G p0 x7 x31 p1 ha t7 c10 z13 c20 t31 c34))⟩ hT

theorem z_X11_leansOn_1 (a0 : Int) (h0 : 0 ≤ a0 ∧ a0 ≤ 12) : ¬ (100 - a0 < ((0 : Nat) : Int)) := by omega
theorem z_X11_leansOn_2 (a0 : Int) (a1 : Int) (h0 : 0 ≤ a0 ∧ a0 ≤ 12) (h1 : a1 = (a0 + 1) ∨ (a0 + 1) < -2147483648 ∨ 2147483648 ≤ (a0 + 1)) : a1 = (a0 + 1) := by omega
theorem z_X11_leansOn_3 (a0 : Int) (h0 : 0 ≤ a0 ∧ a0 ≤ 12) (h1 : ¬ ((12 : Int) ≤ a0)) : 0 ≤ (a0 + 1) ∧ (a0 + 1) ≤ 12 := by omega
theorem z_X11_leansOn_5 (a0 : Int) (h0 : 0 ≤ a0 ∧ a0 ≤ 12) (h1 : ¬ ((12 : Int) ≤ a0)) : 0 ≤ a0 ∧ a0 ≤ 11 := by omega
theorem z_X11_leansOn_10 (a0 : Int) (a1 : Int) (a2 : Int) (a3 : Int) (a4 : Int) (a5 : Int) (h0 : 0 ≤ a0 ∧ a0 < 3 ∧ 0 ≤ a1 ∧ a1 < 30) (h1 : 0 ≤ a5 ∧ a5 ≤ 2) (h2 : 0 ≤ a0 ∧ a0 ≤ 2 ∧ 0 ≤ a1 ∧ a1 ≤ 29 → a2 = 4 * (30 * a0 + a1)) (h3 : a3 = a2 + (1 : Int) ∨ a2 + (1 : Int) < -2147483648 ∨ 2147483648 ≤ a2 + (1 : Int)) (h4 : a4 = a3 + a5 ∨ a3 + a5 < -2147483648 ∨ 2147483648 ≤ a3 + a5) : 0 ≤ a4 ∧ a4 < ((360 : Nat) : Int) := by omega
theorem z_X11_leansOn_11 (a0 : Int) (a1 : Int) (a2 : Int) (a3 : Int) (a4 : Int) (a5 : Int) (h0 : 0 ≤ a0 ∧ a0 < 3 ∧ 0 ≤ a1 ∧ a1 < 30) (h1 : 0 ≤ a5 ∧ a5 ≤ 2) (h2 : 0 ≤ a0 ∧ a0 ≤ 2 ∧ 0 ≤ a1 ∧ a1 ≤ 29 → a2 = 4 * (30 * a0 + a1)) (h3 : a3 = a2 + (1 : Int) ∨ a2 + (1 : Int) < -2147483648 ∨ 2147483648 ≤ a2 + (1 : Int)) (h4 : a4 = a3 + a5 ∨ a3 + a5 < -2147483648 ∨ 2147483648 ≤ a3 + a5) : a4 = 4 * (30 * a0 + a1) + 1 + a5 := by omega
abbrev rm_X11_leansOn : Room := { frames := 3, cells := 0, slots := 0, locals := 67 }
set_option maxHeartbeats 4000000 in
set_option maxRecDepth 100000 in
theorem c_X11_leansOn (l : Launch) (E : XE) (K : Nat → Nat) (F : Nat → Nat → Nat) (G : XG) (h0 : Heap) (a : Nat) (p0 : Int32) (p1 : Int32) (p2 : Int32) (p3 : Int32) (ha : K a = 13) (e0 : 0 ≤ p0.toInt ∧ p0.toInt < 3 ∧ 0 ≤ p1.toInt ∧ p1.toInt < 30) (e1 : 0 ≤ p3.toInt ∧ p3.toInt < 30) (hR : RV (G.2.1 (F a 10))) (hM : RM (G.2.1 (F a 1)) (0)) : Met l yX11_leansOn (xw yX11_leansOn cX11_leansOn 7 (some .boolean)) rm_X11_leansOn (va_Pc [.ref a, .int p0, .int p1, .int p2, .int p3] (XPh E K F G h0)) (XQ E (fun v (u : Unit) => ∃ r : Int32, v = .int r ∧ (r = 0 ∨ r = 1) ∧ ((r.toInt = 1 ∧ lnM (G.2.1 (F a 10)) (mw (G.2.1 (F a 1)) 0) 12 p0.toInt p1.toInt p2.toInt p3.toInt) ∨ (r.toInt = 0 ∧ ¬ lnM (G.2.1 (F a 10)) (mw (G.2.1 (F a 1)) 0) 12 p0.toInt p1.toInt p2.toInt p3.toInt))) (fun _ H => H = h0)) 0 0 (xA E) := by
  refine x_enter (by decide) (Nat.le_of_ble_eq_true rfl) ?_
  intro p e s m args below meth c Q S hr hlk hnm hQ hP ls hl
  obtain ⟨⟨hz, hK, hT⟩, hh⟩ := hP
  obtain ⟨hx, hb, -, -, -⟩ := id S
  have hS : va_S (xA E) s.heap s.heap [] := va_S.rf
  have hl : lv_has ls 7 [(0, .ref a), (1, .int p0), (2, .int p1), (3, .int p2), (4, .int p3)] := hl
  obtain ⟨hk9999, hj9999⟩ := fkX11_10 hT ha
  obtain ⟨hk9999a, hj9999a⟩ := fkX11_1 hT ha
  refine lv_iconst (v := 0) hx hb dX11_leansOn_0 (by decide) ?_
  refine lv_istore (lv' := [(5, .int 0), (0, .ref a), (1, .int p0), (2, .int p1), (3, .int p2), (4, .int p3)]) hx hb dX11_leansOn_1 hl (by decide) rfl (fun ls hl => ?_)
  refine lv_iconst (v := 0) hx hb dX11_leansOn_3 (by decide) ?_
  refine lv_istore (lv' := [(6, .int 0), (5, .int 0), (0, .ref a), (1, .int p0), (2, .int p1), (3, .int p2), (4, .int p3)]) hx hb dX11_leansOn_4 hl (by decide) rfl (fun ls hl => ?_)
  have L6 : ∀ (N6 : Nat) (l5_6 : Int32) (l6_6 : Int32) (locs : List Loc) (ls : Array Slot), ((l5_6.toInt = 1 ∧ lnR (G.2.1 (F a 10)) (G.2.1 (F a 1)) l6_6.toInt p0.toInt p1.toInt p2.toInt p3.toInt) ∨ (l5_6.toInt = 0 ∧ ¬ lnR (G.2.1 (F a 10)) (G.2.1 (F a 1)) l6_6.toInt p0.toInt p1.toInt p2.toInt p3.toInt)) → 0 ≤ l6_6.toInt ∧ l6_6.toInt ≤ 12 → 100 - l6_6.toInt < ((N6 : Nat) : Int) → TW E K F G s.heap → va_S (xA E) s.heap s.heap locs → lv_has ls 7 [(0, .ref a), (1, .int p0), (2, .int p1), (3, .int p2), (4, .int p3), (5, .int l5_6), (6, .int l6_6)] → W p l e rm_X11_leansOn s m args below meth c s.heap locs 0 0 Q (F0 m 6 ls []) := by
    intro N6
    induction N6 with
    | zero =>
      intro l5_6 l6_6 locs ls pl I6_0 hm6
      exact absurd hm6 (z_X11_leansOn_1 l6_6.toInt I6_0)
    | succ N6 ih6 =>
      intro l5_6 l6_6 locs ls pl I6_0 hm6 hT hS hl
      refine lv_iload hx hb dX11_leansOn_6 (lv_at hl 6 rfl) ?_
      refine lv_bipush (v := 12) hx hb dX11_leansOn_8 (by decide) ?_
      refine xi_cge (tgt := 98) hx hb (rfl : Int32.toInt l6_6 = l6_6.toInt) ((by decide) : Int32.toInt 12 = (12 : Int)) dX11_leansOn_10 (by decide) (fun c10 => ?_) (fun c10 => ?_)
      · refine lv_iload hx hb dX11_leansOn_98 (lv_at hl 5 rfl) ?_
        refine xi_zeq (tgt := 116) hx hb (rfl : Int32.toInt l5_6 = l5_6.toInt) dX11_leansOn_100 (by decide) (fun c100 => ?_) (fun c100 => ?_)
        · refine lv_iconst (v := 0) hx hb dX11_leansOn_116 (by decide) ?_
          exact x_rz hx hb hr (xnz (Or.inl rfl)) hlk hQ (Nat.le_of_ble_eq_true rfl) (Nat.le_of_ble_eq_true rfl) hS dX11_leansOn_117 () ⟨_, rfl, (Or.inl rfl), (v_X11_leansOn_117_1 (K := K) (F := F) a G l5_6 l6_6 p0 p1 p2 p3 N6 ha hR hM pl e0 e1 I6_0 hm6 c10 c100)⟩ hh
        · refine lv_aload_n hx hb dX11_leansOn_103 rfl (lv_at hl 0 rfl) ?_
          refine lv_iload_n hx hb dX11_leansOn_104 rfl (lv_at hl 1 rfl) ?_
          refine lv_iload_n hx hb dX11_leansOn_105 rfl (lv_at hl 2 rfl) ?_
          refine x_clp (x_runV (b := a) (As := [.int p0, .int p1]) (rest := []) S (c_X11_isRow l E K F G s.heap a p0 p1 ha (v_X11_leansOn_106_2 (K := K) (F := F) a G l5_6 l6_6 p0 p1 p2 p3 N6 ha hk9999 hj9999 hk9999a hj9999a hR hM pl e0 e1 I6_0 hm6 c10 c100)) mv_X11_isRow km_X11_346 rfl rfl ⟨Nat.le_of_ble_eq_true rfl, Nat.le_of_ble_eq_true rfl⟩ (rc_13 hK hT ha) hK (fun _ => XPh.blind) (fun U hU hW => XPh.at hK hz hS hT hU hW) rfl hl.1 (Nat.le_of_ble_eq_true rfl) dX11_leansOn_106 ⟨Nat.le_of_ble_eq_true rfl, Nat.le_of_ble_eq_true rfl⟩) hS ?_
          rintro _ _ locs ⟨x106, rfl, b106, t106⟩ hS
          have t106 : (x106.toInt = 1 ∧ (cel (mw (G.2.1 (F a 1)) 0) (p0.toInt) (p1.toInt) 0) ≠ -2000) ∨ (x106.toInt = 0 ∧ (cel (mw (G.2.1 (F a 1)) 0) (p0.toInt) (p1.toInt) 0) = -2000) := t106
          refine xi_zeq (tgt := 116) hx hb (rfl : Int32.toInt x106 = x106.toInt) dX11_leansOn_109 (by decide) (fun c109 => ?_) (fun c109 => ?_)
          · refine lv_iconst (v := 0) hx hb dX11_leansOn_116 (by decide) ?_
            exact x_rz hx hb hr (xnz (Or.inl rfl)) hlk hQ (Nat.le_of_ble_eq_true rfl) (Nat.le_of_ble_eq_true rfl) hS dX11_leansOn_117 () ⟨_, rfl, (Or.inl rfl), (v_X11_leansOn_117_3 (K := K) (F := F) a G l5_6 l6_6 p0 p1 p2 p3 N6 x106 ha hR hM pl e0 e1 I6_0 hm6 c10 c100 t106 c109)⟩ hh
          · refine lv_iconst (v := 1) hx hb dX11_leansOn_112 (by decide) ?_
            refine lv_goto (tgt := 117) hx hb dX11_leansOn_113 (by decide) ?_
            exact x_rz hx hb hr (xnz (Or.inr rfl)) hlk hQ (Nat.le_of_ble_eq_true rfl) (Nat.le_of_ble_eq_true rfl) hS dX11_leansOn_117 () ⟨_, rfl, (Or.inr rfl), (v_X11_leansOn_117_4 (K := K) (F := F) a G l5_6 l6_6 p0 p1 p2 p3 N6 x106 ha hR hM pl e0 e1 I6_0 hm6 c10 c100 t106 c109)⟩ hh
      · refine lv_iload hx hb dX11_leansOn_13 (lv_at hl 5 rfl) ?_
        have J90 : ∀ (k_90 : Int32) (locs : List Loc) (ls : Array Slot), ((k_90.toInt = 1 ∧ lnR (G.2.1 (F a 10)) (G.2.1 (F a 1)) (l6_6.toInt + 1) p0.toInt p1.toInt p2.toInt p3.toInt) ∨ (k_90.toInt = 0 ∧ ¬ lnR (G.2.1 (F a 10)) (G.2.1 (F a 1)) (l6_6.toInt + 1) p0.toInt p1.toInt p2.toInt p3.toInt)) → TW E K F G s.heap → va_S (xA E) s.heap s.heap locs → lv_has ls 7 [(0, .ref a), (1, .int p0), (2, .int p1), (3, .int p2), (4, .int p3), (6, .int l6_6)] → W p l e rm_X11_leansOn s m args below meth c s.heap locs 0 0 Q (F0 m 90 ls [.int k_90]) := by
          intro k_90 locs ls pj hT hS hl
          refine lv_istore (lv' := [(5, .int k_90), (0, .ref a), (1, .int p0), (2, .int p1), (3, .int p2), (4, .int p3), (6, .int l6_6)]) hx hb dX11_leansOn_90 hl (by decide) rfl (fun ls hl => ?_)
          refine xi_iinc (n := 1) (lv' := fun z9 => [(6, .int z9), (5, .int k_90), (0, .ref a), (1, .int p0), (2, .int p1), (3, .int p2), (4, .int p3)]) (k := 6) hx hb (rfl : Int32.toInt l6_6 = l6_6.toInt) (by decide) dX11_leansOn_92 hl rfl (by decide) (fun _ => rfl) (fun x92 ls t92 hl => ?_)
          have e92 : x92.toInt = (l6_6.toInt + 1) := (z_X11_leansOn_2 l6_6.toInt x92.toInt I6_0 t92)
          have hl : lv_has ls 7 [(6, .int x92), (5, .int k_90), (0, .ref a), (1, .int p0), (2, .int p1), (3, .int p2), (4, .int p3)] := hl
          refine lv_goto (tgt := 6) hx hb dX11_leansOn_95 (by decide) ?_
          exact ih6 k_90 x92 _ _ (by rw [(e92 : Int32.toInt x92 = (l6_6.toInt + 1))] <;> exact (v_X11_leansOn_95_5 (F := F) a G l6_6 p0 p1 p2 p3 k_90 pj)) (by rw [(e92 : Int32.toInt x92 = (l6_6.toInt + 1))] <;> exact (z_X11_leansOn_3 l6_6.toInt I6_0 c10)) (by rw [(e92 : Int32.toInt x92 = (l6_6.toInt + 1))] <;> exact (z_X11_depth_16 l6_6.toInt N6 hm6)) hT hS (lv_sub hl [2, 3, 4, 5, 6, 1, 0] rfl)
        refine xi_zne (tgt := 85) hx hb (rfl : Int32.toInt l5_6 = l5_6.toInt) dX11_leansOn_15 (by decide) (fun c15 => ?_) (fun c15 => ?_)
        · refine lv_iconst (v := 1) hx hb dX11_leansOn_85 (by decide) ?_
          refine lv_goto (tgt := 90) hx hb dX11_leansOn_86 (by decide) ?_
          exact J90 1 _ _ (v_X11_leansOn_86_6 (K := K) (F := F) a G l5_6 l6_6 p0 p1 p2 p3 N6 ha pl e0 e1 I6_0 hm6 c10 c15) hT hS (lv_sub hl [0, 1, 2, 3, 4, 6] rfl)
        · refine lv_aload_n hx hb dX11_leansOn_18 rfl (lv_at hl 0 rfl) ?_
          refine lv_iload hx hb dX11_leansOn_19 (lv_at hl 6 rfl) ?_
          refine x_clp (x_runV (b := a) (As := [.int l6_6]) (rest := []) S (c_X11_isRule l E K F G s.heap a l6_6 ha) mv_X11_isRule km_X11_162 rfl rfl ⟨Nat.le_of_ble_eq_true rfl, Nat.le_of_ble_eq_true rfl⟩ (rc_13 hK hT ha) hK (fun _ => XPh.blind) (fun U hU hW => XPh.at hK hz hS hT hU hW) rfl hl.1 (Nat.le_of_ble_eq_true rfl) dX11_leansOn_21 ⟨Nat.le_of_ble_eq_true rfl, Nat.le_of_ble_eq_true rfl⟩) hS ?_
          rintro _ _ locs ⟨x21, rfl, b21, t21⟩ hS
          have t21 : (x21.toInt = 1 ∧ 0 ≤ l6_6.toInt ∧ l6_6.toInt ≤ 11 ∧ (aI (G.2.1 (F a 10)) (10 * l6_6.toInt + 0)) ≠ -1) ∨ (x21.toInt = 0 ∧ (¬ (0 ≤ l6_6.toInt ∧ l6_6.toInt ≤ 11) ∨ (aI (G.2.1 (F a 10)) (10 * l6_6.toInt + 0)) = -1)) := t21
          refine xi_zeq (tgt := 89) hx hb (rfl : Int32.toInt x21 = x21.toInt) dX11_leansOn_24 (by decide) (fun c24 => ?_) (fun c24 => ?_)
          · refine lv_iconst (v := 0) hx hb dX11_leansOn_89 (by decide) ?_
            exact J90 0 _ _ (v_X11_leansOn_89_7 (K := K) (F := F) a G l5_6 l6_6 p0 p1 p2 p3 N6 x21 ha pl e0 e1 I6_0 hm6 c10 c15 t21 c24) hT hS (lv_sub hl [0, 1, 2, 3, 4, 6] rfl)
          · have z27 : (-1 ≤ (aI (G.2.1 (F a 10)) (10 * l6_6.toInt + 0)) ∧ (aI (G.2.1 (F a 10)) (10 * l6_6.toInt + 0)) ≤ 5) ∧ (0 ≤ (aI (G.2.1 (F a 10)) (10 * l6_6.toInt + 1)) ∧ (aI (G.2.1 (F a 10)) (10 * l6_6.toInt + 1)) ≤ 2) ∧ (0 ≤ (aI (G.2.1 (F a 10)) (10 * l6_6.toInt + 2)) ∧ (aI (G.2.1 (F a 10)) (10 * l6_6.toInt + 2)) ≤ 2) ∧ (-1 ≤ (aI (G.2.1 (F a 10)) (10 * l6_6.toInt + 3)) ∧ (aI (G.2.1 (F a 10)) (10 * l6_6.toInt + 3)) ≤ 2) ∧ ((aI (G.2.1 (F a 10)) (10 * l6_6.toInt + 0)) = 1 ∨ (aI (G.2.1 (F a 10)) (10 * l6_6.toInt + 0)) = 3 ∨ (aI (G.2.1 (F a 10)) (10 * l6_6.toInt + 0)) = 4 → 0 ≤ (aI (G.2.1 (F a 10)) (10 * l6_6.toInt + 3))) := RV.row hR (z_X11_leansOn_5 l6_6.toInt I6_0 c10)
            refine lv_aload_n hx hb dX11_leansOn_27 rfl (lv_at hl 0 rfl) ?_
            refine lv_iload hx hb dX11_leansOn_28 (lv_at hl 6 rfl) ?_
            refine lv_iconst (v := 0) hx hb dX11_leansOn_30 (by decide) ?_
            refine x_clp (x_runV (b := a) (As := [.int l6_6, .int 0]) (rest := []) S (c_X11_of l E K F G s.heap a l6_6 0 ha (z_X11_leansOn_5 l6_6.toInt I6_0 c10) (by decide)) mv_X11_of km_X11_165 rfl rfl ⟨Nat.le_of_ble_eq_true rfl, Nat.le_of_ble_eq_true rfl⟩ (rc_13 hK hT ha) hK (fun _ => XPh.blind) (fun U hU hW => XPh.at hK hz hS hT hU hW) rfl hl.1 (Nat.le_of_ble_eq_true rfl) dX11_leansOn_31 ⟨Nat.le_of_ble_eq_true rfl, Nat.le_of_ble_eq_true rfl⟩) hS ?_
            rintro _ _ locs ⟨x31, rfl, t31⟩ hS
            have t31 : x31.toInt = (aI (G.2.1 (F a 10)) (10 * l6_6.toInt + 0)) := t31
            refine lv_iconst (v := 1) hx hb dX11_leansOn_34 (by decide) ?_
            refine xi_cne (tgt := 89) hx hb (t31 : Int32.toInt x31 = (aI (G.2.1 (F a 10)) (10 * l6_6.toInt + 0))) ((by decide) : Int32.toInt 1 = (1 : Int)) dX11_leansOn_35 (by decide) (fun c35 => ?_) (fun c35 => ?_)
            · refine lv_iconst (v := 0) hx hb dX11_leansOn_89 (by decide) ?_
              exact J90 0 _ _ (v_X11_leansOn_89_8 (K := K) (F := F) a G l5_6 l6_6 p0 p1 p2 p3 N6 x21 ha pl e0 e1 I6_0 hm6 c10 c15 t21 c24 z27 c35) hT hS (lv_sub hl [0, 1, 2, 3, 4, 6] rfl)
            · refine lv_aload_n hx hb dX11_leansOn_38 rfl (lv_at hl 0 rfl) ?_
              refine lv_iload hx hb dX11_leansOn_39 (lv_at hl 6 rfl) ?_
              refine lv_iconst (v := 3) hx hb dX11_leansOn_41 (by decide) ?_
              refine x_clp (x_runV (b := a) (As := [.int l6_6, .int 3]) (rest := []) S (c_X11_of l E K F G s.heap a l6_6 3 ha (z_X11_leansOn_5 l6_6.toInt I6_0 c10) (by decide)) mv_X11_of km_X11_165 rfl rfl ⟨Nat.le_of_ble_eq_true rfl, Nat.le_of_ble_eq_true rfl⟩ (rc_13 hK hT ha) hK (fun _ => XPh.blind) (fun U hU hW => XPh.at hK hz hS hT hU hW) rfl hl.1 (Nat.le_of_ble_eq_true rfl) dX11_leansOn_42 ⟨Nat.le_of_ble_eq_true rfl, Nat.le_of_ble_eq_true rfl⟩) hS ?_
              rintro _ _ locs ⟨x42, rfl, t42⟩ hS
              have t42 : x42.toInt = (aI (G.2.1 (F a 10)) (10 * l6_6.toInt + 3)) := t42
              refine lv_iload_n hx hb dX11_leansOn_45 rfl (lv_at hl 3 rfl) ?_
              refine xi_cne (tgt := 89) hx hb (t42 : Int32.toInt x42 = (aI (G.2.1 (F a 10)) (10 * l6_6.toInt + 3))) (rfl : Int32.toInt p2 = p2.toInt) dX11_leansOn_46 (by decide) (fun c46 => ?_) (fun c46 => ?_)
              · refine lv_iconst (v := 0) hx hb dX11_leansOn_89 (by decide) ?_
                exact J90 0 _ _ (v_X11_leansOn_89_9 (K := K) (F := F) a G l5_6 l6_6 p0 p1 p2 p3 N6 x21 ha pl e0 e1 I6_0 hm6 c10 c15 t21 c24 z27 c35 c46) hT hS (lv_sub hl [0, 1, 2, 3, 4, 6] rfl)
              · refine lv_aload_n hx hb dX11_leansOn_49 rfl (lv_at hl 0 rfl) ?_
                refine lv_iload hx hb dX11_leansOn_50 (lv_at hl 6 rfl) ?_
                refine lv_iconst (v := 1) hx hb dX11_leansOn_52 (by decide) ?_
                refine x_clp (x_runV (b := a) (As := [.int l6_6, .int 1]) (rest := []) S (c_X11_of l E K F G s.heap a l6_6 1 ha (z_X11_leansOn_5 l6_6.toInt I6_0 c10) (by decide)) mv_X11_of km_X11_165 rfl rfl ⟨Nat.le_of_ble_eq_true rfl, Nat.le_of_ble_eq_true rfl⟩ (rc_13 hK hT ha) hK (fun _ => XPh.blind) (fun U hU hW => XPh.at hK hz hS hT hU hW) rfl hl.1 (Nat.le_of_ble_eq_true rfl) dX11_leansOn_53 ⟨Nat.le_of_ble_eq_true rfl, Nat.le_of_ble_eq_true rfl⟩) hS ?_
                rintro _ _ locs ⟨x53, rfl, t53⟩ hS
                have t53 : x53.toInt = (aI (G.2.1 (F a 10)) (10 * l6_6.toInt + 1)) := t53
                refine lv_iload_n hx hb dX11_leansOn_56 rfl (lv_at hl 1 rfl) ?_
                refine xi_cne (tgt := 89) hx hb (t53 : Int32.toInt x53 = (aI (G.2.1 (F a 10)) (10 * l6_6.toInt + 1))) (rfl : Int32.toInt p0 = p0.toInt) dX11_leansOn_57 (by decide) (fun c57 => ?_) (fun c57 => ?_)
                · refine lv_iconst (v := 0) hx hb dX11_leansOn_89 (by decide) ?_
                  exact J90 0 _ _ (v_X11_leansOn_89_10 (K := K) (F := F) a G l5_6 l6_6 p0 p1 p2 p3 N6 x21 ha pl e0 e1 I6_0 hm6 c10 c15 t21 c24 z27 c35 c46 c57) hT hS (lv_sub hl [0, 1, 2, 3, 4, 6] rfl)
                · refine lv_aload_n hx hb dX11_leansOn_60 rfl (lv_at hl 0 rfl) ?_
                  refine gX11_1 S hK hT ha kf_X11_9 dX11_leansOn_61 (fun _ _ => ?_)
                  refine lv_iload_n hx hb dX11_leansOn_64 rfl (lv_at hl 1 rfl) ?_
                  refine lv_iload_n hx hb dX11_leansOn_65 rfl (lv_at hl 2 rfl) ?_
                  refine x_clp (x_runS (As := [.int p0, .int p1]) (rest := [.ref (F a 1)]) S (c_X11_at l E K F G s.heap p0 p1) ms_X11_at km_X11_156 rfl rfl ⟨Nat.le_of_ble_eq_true rfl, Nat.le_of_ble_eq_true rfl⟩ hK (fun _ => XPh.blind) (fun U hU hW => XPh.at hK hz hS hT hU hW) rfl hl.1 (Nat.le_of_ble_eq_true rfl) dX11_leansOn_66 ⟨Nat.le_of_ble_eq_true rfl, Nat.le_of_ble_eq_true rfl⟩) hS ?_
                  rintro _ _ locs ⟨x66, rfl, t66⟩ hS
                  have t66 : 0 ≤ p0.toInt ∧ p0.toInt ≤ 2 ∧ 0 ≤ p1.toInt ∧ p1.toInt ≤ 29 → x66.toInt = 4 * (30 * p0.toInt + p1.toInt) := t66
                  refine lv_iconst (v := 1) hx hb dX11_leansOn_69 (by decide) ?_
                  refine xi_iadd hx hb (rfl : Int32.toInt x66 = x66.toInt) ((by decide) : Int32.toInt 1 = (1 : Int)) dX11_leansOn_70 (fun x70 t70 => ?_)
                  refine lv_aload_n hx hb dX11_leansOn_71 rfl (lv_at hl 0 rfl) ?_
                  refine lv_iload hx hb dX11_leansOn_72 (lv_at hl 6 rfl) ?_
                  refine lv_iconst (v := 2) hx hb dX11_leansOn_74 (by decide) ?_
                  refine x_clp (x_runV (b := a) (As := [.int l6_6, .int 2]) (rest := [.int x70, .ref (F a 1)]) S (c_X11_of l E K F G s.heap a l6_6 2 ha (z_X11_leansOn_5 l6_6.toInt I6_0 c10) (by decide)) mv_X11_of km_X11_165 rfl rfl ⟨Nat.le_of_ble_eq_true rfl, Nat.le_of_ble_eq_true rfl⟩ (rc_13 hK hT ha) hK (fun _ => XPh.blind) (fun U hU hW => XPh.at hK hz hS hT hU hW) rfl hl.1 (Nat.le_of_ble_eq_true rfl) dX11_leansOn_75 ⟨Nat.le_of_ble_eq_true rfl, Nat.le_of_ble_eq_true rfl⟩) hS ?_
                  rintro _ _ locs ⟨x75, rfl, t75⟩ hS
                  have t75 : x75.toInt = (aI (G.2.1 (F a 10)) (10 * l6_6.toInt + 2)) := t75
                  refine xi_iadd hx hb (rfl : Int32.toInt x70 = x70.toInt) (t75 : Int32.toInt x75 = (aI (G.2.1 (F a 10)) (10 * l6_6.toInt + 2))) dX11_leansOn_78 (fun x78 t78 => ?_)
                  refine al_0 S hK hT hk9999a ar_30 (by decide) (z_X11_leansOn_10 p0.toInt p1.toInt x66.toInt x70.toInt x78.toInt (aI (G.2.1 (F a 10)) (10 * l6_6.toInt + 2)) e0 (z27).2.2.1 t66 t70 t78) dX11_leansOn_79 (fun x79 hv79 o79 => ?_)
                  have hv79 : x79.toInt = (aI (G.2.1 (F a 1)) (4 * (30 * p0.toInt + p1.toInt) + 1 + (aI (G.2.1 (F a 10)) (10 * l6_6.toInt + 2)))) := hv79.trans (by rw [((rfl : Int32.toInt x78 = x78.toInt).trans (z_X11_leansOn_11 p0.toInt p1.toInt x66.toInt x70.toInt x78.toInt (aI (G.2.1 (F a 10)) (10 * l6_6.toInt + 2)) e0 (z27).2.2.1 t66 t70 t78))])
                  refine lv_iload hx hb dX11_leansOn_80 (lv_at hl 4 rfl) ?_
                  refine xi_cne (tgt := 89) hx hb (hv79 : Int32.toInt x79 = (aI (G.2.1 (F a 1)) (4 * (30 * p0.toInt + p1.toInt) + 1 + (aI (G.2.1 (F a 10)) (10 * l6_6.toInt + 2))))) (rfl : Int32.toInt p3 = p3.toInt) dX11_leansOn_82 (by decide) (fun c82 => ?_) (fun c82 => ?_)
                  · refine lv_iconst (v := 0) hx hb dX11_leansOn_89 (by decide) ?_
                    exact J90 0 _ _ (v_X11_leansOn_89_11 (K := K) (F := F) a G l5_6 l6_6 p0 p1 p2 p3 N6 x21 x66 ha pl e0 e1 I6_0 hm6 c10 c15 t21 c24 z27 c35 c46 c57 t66 c82) hT hS (lv_sub hl [0, 1, 2, 3, 4, 6] rfl)
                  · refine lv_iconst (v := 1) hx hb dX11_leansOn_85 (by decide) ?_
                    refine lv_goto (tgt := 90) hx hb dX11_leansOn_86 (by decide) ?_
                    exact J90 1 _ _ (v_X11_leansOn_86_12 (K := K) (F := F) a G l5_6 l6_6 p0 p1 p2 p3 N6 x21 x66 ha pl e0 e1 I6_0 hm6 c10 c15 t21 c24 z27 c35 c46 c57 t66 c82) hT hS (lv_sub hl [0, 1, 2, 3, 4, 6] rfl)
  exact L6 4294967297 0 0 _ _ (v_X11_leansOn_4_13 (K := K) (F := F) a G p0 p1 p3 p2 ha e0 e1) (by decide) (by decide) hT hS (lv_sub hl [2, 3, 4, 5, 6, 1, 0] rfl)
theorem v_X11_fresh_24_1 {K : Nat → Nat} {F : Nat → Nat → Nat} (a : Nat) (G : XG) (p0 : Int32) (x7 : Int32) (p1 : Int32)
    (ha : K a = 13)
    (m0 : 0 ≤ ((G.1 a 7).toInt) ∧ ((G.1 a 7).toInt) ≤ 8)
    (t7 : (((G.1 a 6).toInt) ≠ 0 ∧ 0 ≤ p0.toInt ∧ p0.toInt ≤ ((G.1 a 7).toInt) - 1 ∧ x7.toInt = 1) ∨ (¬ (((G.1 a 6).toInt) ≠ 0 ∧ 0 ≤ p0.toInt ∧ p0.toInt ≤ ((G.1 a 7).toInt) - 1) ∧ x7.toInt = 0))
    (c10 : x7.toInt = 0) :
    ((¬ (((G.1 a 6).toInt) ≠ 0 ∧ 0 ≤ p0.toInt ∧ p0.toInt ≤ ((G.1 a 7).toInt) - 1) ∨ p1.toInt < 0 ∨ 1 < p1.toInt) ∧ (-1 : Int) = -1) ∨ ((((G.1 a 6).toInt) ≠ 0 ∧ 0 ≤ p0.toInt ∧ p0.toInt ≤ ((G.1 a 7).toInt) - 1) ∧ (0 ≤ p1.toInt ∧ p1.toInt ≤ 1) ∧ (-1 : Int) = frA (G.2.1 (F a 10)) (mw (G.2.1 (F a 1)) 0) (mw (G.2.1 (F a 2)) 0) (mw (G.2.1 (F a 3)) (360 * p0.toInt)) p1.toInt 12) := by
  exact Or.inl ⟨by omega, rfl⟩
theorem v_X11_fresh_26_2 {F : Nat → Nat → Nat} (a : Nat) (G2 : XG) (G : XG)
    (hR : RV (G.2.1 (F a 10)))
    (c_G2_F_a_10 : G2.2.1 (F a 10) = G.2.1 (F a 10)) :
    RV (G2.2.1 (F a 10)) := by simp only [c_G2_F_a_10]; assumption
theorem v_X11_fresh_26_3 {F : Nat → Nat → Nat} (a : Nat) (G2 : XG) (G : XG)
    (hM : RM (G.2.1 (F a 1)) (0))
    (hB : RM (G.2.1 (F a 2)) 0)
    (c_G2_F_a_1 : G2.2.1 (F a 1) = G.2.1 (F a 1)) :
    RM (G2.2.1 (F a 1)) (0) := by simp only [c_G2_F_a_1]; assumption
theorem v_X11_fresh_26_4 {F : Nat → Nat → Nat} (a : Nat) (G2 : XG) (G : XG)
    (hM : RM (G.2.1 (F a 1)) (0))
    (hB : RM (G.2.1 (F a 2)) 0)
    (c_G2_F_a_2 : G2.2.1 (F a 2) = G.2.1 (F a 2)) :
    RM (G2.2.1 (F a 2)) 0 := by simp only [c_G2_F_a_2]; assumption
theorem v_X11_fresh_43_5 {F : Nat → Nat → Nat} (a : Nat) (G : XG) (G26 : XG)
    (hR : RV (G.2.1 (F a 10)))
    (c_G26_F_a_10 : G26.2.1 (F a 10) = G.2.1 (F a 10)) :
    RV (G26.2.1 (F a 10)) := by simp only [c_G26_F_a_10]; assumption
theorem v_X11_fresh_43_6 {F : Nat → Nat → Nat} (G : XG) (a : Nat) (p0 : Int32) (x7 : Int32) (G26 : XG)
    (hmk : ∀ m : Int, 0 ≤ m → m < ((G.1 a 7).toInt) → RM (G.2.1 (F a 3)) (360 * m))
    (m0 : 0 ≤ ((G.1 a 7).toInt) ∧ ((G.1 a 7).toInt) ≤ 8)
    (t7 : (((G.1 a 6).toInt) ≠ 0 ∧ 0 ≤ p0.toInt ∧ p0.toInt ≤ ((G.1 a 7).toInt) - 1 ∧ x7.toInt = 1) ∨ (¬ (((G.1 a 6).toInt) ≠ 0 ∧ 0 ≤ p0.toInt ∧ p0.toInt ≤ ((G.1 a 7).toInt) - 1) ∧ x7.toInt = 0))
    (c10 : ¬ (x7.toInt = 0))
    (c_G26_F_a_3 : G26.2.1 (F a 3) = G.2.1 (F a 3)) :
    RM (G26.2.1 (F a 3)) ((360 : Int) * p0.toInt) := by
  rw [c_G26_F_a_3]; exact hmk p0.toInt (by omega) (by omega)
theorem v_X11_fresh_208_7 {K : Nat → Nat} {F : Nat → Nat → Nat} (a : Nat) (G2 : XG) (G : XG) (G26 : XG) (G43 : XG) (p0 : Int32) (x7 : Int32) (x17 : Int32) (p1 : Int32) (l4_51 : Int32) (l3_51 : Int32) (N51 : Nat)
    (ha : K a = 13)
    (oq26a : ((G.1 a 6).toInt) ≠ 0 → LSt (G.2.1 (F a 10)) (G26.2.1 (F a 11)) (mw (G.2.1 (F a 1)) 0) 12 ∧ LSt (G.2.1 (F a 10)) (G26.2.1 (F a 13)) (mw (G.2.1 (F a 2)) 0) 12)
    (oq26b : G26.2.2.2 = G2.2.2.2)
    (oq43a : G43.2.2.2 = G26.2.2.2)
    (m0 : 0 ≤ ((G.1 a 7).toInt) ∧ ((G.1 a 7).toInt) ≤ 8)
    (t7 : (((G.1 a 6).toInt) ≠ 0 ∧ 0 ≤ p0.toInt ∧ p0.toInt ≤ ((G.1 a 7).toInt) - 1 ∧ x7.toInt = 1) ∨ (¬ (((G.1 a 6).toInt) ≠ 0 ∧ 0 ≤ p0.toInt ∧ p0.toInt ≤ ((G.1 a 7).toInt) - 1) ∧ x7.toInt = 0))
    (c10 : ¬ (x7.toInt = 0))
    (t17 : (x17.toInt = 1 ∧ (0 : Int) ≤ p1.toInt ∧ p1.toInt ≤ (1 : Int)) ∨ (x17.toInt = 0 ∧ (p1.toInt < (0 : Int) ∨ (1 : Int) < p1.toInt)))
    (c20 : x17.toInt ≠ 0)
    (t26 : 0 ≤ ((G26.1 a 19).toInt) ∧ ((G26.1 a 19).toInt) ≤ 2388)
    (z48 : (frA (G.2.1 (F a 10)) (mw (G.2.1 (F a 1)) 0) (mw (G.2.1 (F a 2)) 0) (mw (G.2.1 (F a 3)) (360 * p0.toInt)) p1.toInt 0) = 0)
    (I51_0 : 0 ≤ l4_51.toInt ∧ l4_51.toInt ≤ 12)
    (I51_1 : l3_51.toInt = (frA (G.2.1 (F a 10)) (mw (G.2.1 (F a 1)) 0) (mw (G.2.1 (F a 2)) 0) (mw (G.2.1 (F a 3)) (360 * p0.toInt)) p1.toInt (l4_51.toInt)))
    (I51_2 : 0 ≤ l3_51.toInt ∧ l3_51.toInt ≤ 199 * l4_51.toInt)
    (hm51 : 100 - l4_51.toInt < (((N51) + 1 : Nat) : Int))
    (z53 : l4_51.toInt = 12 → (frA (G.2.1 (F a 10)) (mw (G.2.1 (F a 1)) 0) (mw (G.2.1 (F a 2)) 0) (mw (G.2.1 (F a 3)) (360 * p0.toInt)) p1.toInt (l4_51.toInt)) = (frA (G.2.1 (F a 10)) (mw (G.2.1 (F a 1)) 0) (mw (G.2.1 (F a 2)) 0) (mw (G.2.1 (F a 3)) (360 * p0.toInt)) p1.toInt 12))
    (c55 : (12 : Int) ≤ l4_51.toInt) :
    ((¬ (((G.1 a 6).toInt) ≠ 0 ∧ 0 ≤ p0.toInt ∧ p0.toInt ≤ ((G.1 a 7).toInt) - 1) ∨ p1.toInt < 0 ∨ 1 < p1.toInt) ∧ l3_51.toInt = -1) ∨ ((((G.1 a 6).toInt) ≠ 0 ∧ 0 ≤ p0.toInt ∧ p0.toInt ≤ ((G.1 a 7).toInt) - 1) ∧ (0 ≤ p1.toInt ∧ p1.toInt ≤ 1) ∧ l3_51.toInt = frA (G.2.1 (F a 10)) (mw (G.2.1 (F a 1)) 0) (mw (G.2.1 (F a 2)) 0) (mw (G.2.1 (F a 3)) (360 * p0.toInt)) p1.toInt 12) := by
  exact Or.inr ⟨by omega, by omega, by omega⟩
theorem v_X11_fresh_24_8 {K : Nat → Nat} {F : Nat → Nat → Nat} (a : Nat) (G : XG) (p0 : Int32) (x7 : Int32) (x17 : Int32) (p1 : Int32)
    (ha : K a = 13)
    (m0 : 0 ≤ ((G.1 a 7).toInt) ∧ ((G.1 a 7).toInt) ≤ 8)
    (t7 : (((G.1 a 6).toInt) ≠ 0 ∧ 0 ≤ p0.toInt ∧ p0.toInt ≤ ((G.1 a 7).toInt) - 1 ∧ x7.toInt = 1) ∨ (¬ (((G.1 a 6).toInt) ≠ 0 ∧ 0 ≤ p0.toInt ∧ p0.toInt ≤ ((G.1 a 7).toInt) - 1) ∧ x7.toInt = 0))
    (c10 : ¬ (x7.toInt = 0))
    (t17 : (x17.toInt = 1 ∧ (0 : Int) ≤ p1.toInt ∧ p1.toInt ≤ (1 : Int)) ∨ (x17.toInt = 0 ∧ (p1.toInt < (0 : Int) ∨ (1 : Int) < p1.toInt)))
    (c20 : ¬ (x17.toInt ≠ 0)) :
    ((¬ (((G.1 a 6).toInt) ≠ 0 ∧ 0 ≤ p0.toInt ∧ p0.toInt ≤ ((G.1 a 7).toInt) - 1) ∨ p1.toInt < 0 ∨ 1 < p1.toInt) ∧ (-1 : Int) = -1) ∨ ((((G.1 a 6).toInt) ≠ 0 ∧ 0 ≤ p0.toInt ∧ p0.toInt ≤ ((G.1 a 7).toInt) - 1) ∧ (0 ≤ p1.toInt ∧ p1.toInt ≤ 1) ∧ (-1 : Int) = frA (G.2.1 (F a 10)) (mw (G.2.1 (F a 1)) 0) (mw (G.2.1 (F a 2)) 0) (mw (G.2.1 (F a 3)) (360 * p0.toInt)) p1.toInt 12) := by
  exact Or.inl ⟨by omega, rfl⟩
theorem z_X11_fresh_1 (a0 : Int) (a1 : Int) (a2 : Int) (a3 : Int) (a4 : Int) (h0 : 0 ≤ a4 ∧ a4 ≤ 8) (h1 : (a3 ≠ 0 ∧ 0 ≤ a0 ∧ a0 ≤ a4 - 1 ∧ a2 = 1) ∨ (¬ (a3 ≠ 0 ∧ 0 ≤ a0 ∧ a0 ≤ a4 - 1) ∧ a2 = 0)) (h2 : ¬ (a2 = 0)) (h3 : a1 = ((360 : Int) * a0) ∨ ((360 : Int) * a0) < -2147483648 ∨ 2147483648 ≤ ((360 : Int) * a0)) : a1 = ((360 : Int) * a0) := by omega
theorem z_X11_fresh_2 (a0 : Int) (a1 : Int) (a2 : Int) (a3 : Int) (h0 : 0 ≤ a3 ∧ a3 ≤ 8) (h1 : (a2 ≠ 0 ∧ 0 ≤ a0 ∧ a0 ≤ a3 - 1 ∧ a1 = 1) ∨ (¬ (a2 ≠ 0 ∧ 0 ≤ a0 ∧ a0 ≤ a3 - 1) ∧ a1 = 0)) (h2 : ¬ (a1 = 0)) : 0 ≤ ((360 : Int) * a0) ∧ ((360 : Int) * a0) ≤ 2520 := by omega
theorem z_X11_fresh_3 (a0 : Int) (h0 : 0 ≤ a0 ∧ a0 ≤ 12) : ¬ (100 - a0 < ((0 : Nat) : Int)) := by omega
theorem z_X11_fresh_4 (a0 : Int) (h0 : 0 ≤ a0 ∧ a0 ≤ 12) : 0 ≤ a0 := by omega
theorem z_X11_fresh_5 (a0 : Int) (a1 : Int) (h0 : 0 ≤ a0 ∧ a0 ≤ 12) (h1 : a1 = (a0 + 1) ∨ (a0 + 1) < -2147483648 ∨ 2147483648 ≤ (a0 + 1)) : a1 = (a0 + 1) := by omega
theorem z_X11_fresh_6 (a0 : Int) (h0 : 0 ≤ a0 ∧ a0 ≤ 12) (h1 : ¬ ((12 : Int) ≤ a0)) : 0 ≤ (a0 + 1) ∧ (a0 + 1) ≤ 12 := by omega
theorem z_X11_fresh_7 (a0 : Int) (a1 : Int) (a2 : Int) (a3 : Int) (a4 : Int) (a5 : Int) (a6 : Int) (a7 : Int) (h0 : 0 ≤ a1 ∧ a1 ≤ 12) (h1 : a0 = a6) (h2 : ¬ ((12 : Int) ≤ a1)) (h3 : a5 = a6 + a7) (h4 : ¬ (a3 ≠ -1 ∧ a4 = 1) → a7 = 0) (h5 : (a2 = 1 ∧ 0 ≤ a1 ∧ a1 ≤ 11 ∧ a3 ≠ -1) ∨ (a2 = 0 ∧ (¬ (0 ≤ a1 ∧ a1 ≤ 11) ∨ a3 = -1))) (h6 : a2 = 0) : a0 = a5 := by omega
theorem z_X11_fresh_8 (a0 : Int) (a1 : Int) (h0 : 0 ≤ a0 ∧ a0 ≤ 199 * a1) : 0 ≤ a0 ∧ a0 ≤ 199 * (a1 + 1) := by omega
theorem z_X11_fresh_9 (a0 : Int) (a1 : Nat) (h0 : 100 - a0 < ((a1 + 1 : Nat) : Int)) : 100 - (a0 + 1) < ((a1 : Nat) : Int) := by omega
theorem z_X11_fresh_10 (a0 : Int) (h0 : 0 ≤ a0 ∧ a0 ≤ 12) (h1 : ¬ ((12 : Int) ≤ a0)) : 0 ≤ a0 ∧ a0 ≤ 11 := by omega
theorem z_X11_fresh_13 (a0 : Int) (a1 : Int) (a2 : Int) (a3 : Int) (a4 : Int) (a5 : Int) (h0 : a0 = a4) (h1 : a3 = a4 + a5) (h2 : ¬ (a1 ≠ -1 ∧ a2 = 1) → a5 = 0) (h3 : a2 ≠ (1 : Int)) : a0 = a3 := by omega
theorem z_X11_fresh_18 (a0 : Int) (h0 : -2147483648 ≤ a0 ∧ a0 < 2147483648) : ¬ (2147483648 - a0 < ((0 : Nat) : Int)) := by omega
theorem z_X11_fresh_22 (a0 : Int) (a1 : Int) (a2 : Int) (a3 : Int) (a4 : Int) (a5 : Int) (a6 : Int) (a7 : Int) (a8 : Int) (a9 : Int) (a10 : Int) (a11 : Int) (a12 : Int) (h0 : a6 = a7 + a8) (h1 : a4 ≠ -1 ∧ a5 = 1 → a8 = a12) (h2 : (a3 = 1 ∧ 0 ≤ a1 ∧ a1 ≤ 11 ∧ a4 ≠ -1) ∨ (a3 = 0 ∧ (¬ (0 ≤ a1 ∧ a1 ≤ 11) ∨ a4 = -1))) (h3 : ¬ (a3 = 0)) (h4 : ¬ (a5 ≠ (1 : Int))) (h5 : a9 ≤ a2 ∧ a2 ≤ a10 + 1) (h6 : a0 = a7 + a11) (h7 : a2 = a10 + 1 → a11 = a12) (h8 : a10 < a2) : a0 = a6 := by omega
theorem z_X11_fresh_23 (a0 : Int) (a1 : Int) (a2 : Int) (a3 : Int) (a4 : Int) (a5 : Int) (h0 : ((a3 = 2 ∨ a3 = 4 ∨ a3 = 5) ∧ a4 = 0 ∧ a5 = 29) ∨ (¬ (a3 = 2 ∨ a3 = 4 ∨ a3 = 5) ∧ a4 = -99 ∧ a5 = 99)) (h1 : a4 ≤ a2 ∧ a2 ≤ a5 + 1) (h2 : 0 ≤ a0 ∧ a0 ≤ 199 * a1 + (a2 - a4)) : 0 ≤ a0 ∧ a0 ≤ 199 * (a1 + 1) := by omega
theorem z_X11_fresh_25 (a0 : Int) (a1 : Int) (a2 : Int) (h0 : a1 ≤ a0 ∧ a0 ≤ a2 + 1) : a1 ≤ a0 := by omega
theorem z_X11_fresh_26 (a0 : Int) (a1 : Int) (a2 : Int) (a3 : Int) (h0 : (a2 ≠ 0 ∧ 0 ≤ a0 ∧ a0 ≤ a3 - 1 ∧ a1 = 1) ∨ (¬ (a2 ≠ 0 ∧ 0 ≤ a0 ∧ a0 ≤ a3 - 1) ∧ a1 = 0)) (h1 : ¬ (a1 = 0)) : a2 ≠ 0 := by omega
theorem z_X11_fresh_28 (a0 : Int) (h0 : ¬ ((12 : Int) ≤ a0)) : a0 < 12 := by omega
theorem z_X11_fresh_29 (a0 : Int) (a1 : Int) (a2 : Int) (h0 : (a1 = 1 ∧ 0 ≤ a0 ∧ a0 ≤ 11 ∧ a2 ≠ -1) ∨ (a1 = 0 ∧ (¬ (0 ≤ a0 ∧ a0 ≤ 11) ∨ a2 = -1))) (h1 : ¬ (a1 = 0)) : a2 ≠ -1 := by omega
theorem z_X11_fresh_30 (a0 : Int) (a1 : Int) (a2 : Int) (h0 : a1 ≤ a0 ∧ a0 ≤ a2 + 1) (h1 : ¬ (a2 < a0)) : a1 ≤ a0 ∧ a0 ≤ a2 := by omega
theorem z_X11_fresh_40 (a0 : Int) (a1 : Int) (a2 : Int) (a3 : Int) (a4 : Int) (h0 : 0 ≤ a0 ∧ a0 ≤ 12) (h1 : ¬ ((12 : Int) ≤ a0)) (h2 : ((a2 = 2 ∨ a2 = 4 ∨ a2 = 5) ∧ a3 = 0 ∧ a4 = 29) ∨ (¬ (a2 = 2 ∨ a2 = 4 ∨ a2 = 5) ∧ a3 = -99 ∧ a4 = 99)) (h3 : a3 ≤ a1 ∧ a1 ≤ a4 + 1) (h4 : ¬ (a4 < a1)) : 0 ≤ a0 ∧ a0 ≤ 11 ∧ -99 ≤ a1 ∧ a1 ≤ 99 := by omega
theorem z_X11_fresh_41 (a0 : Int) (a1 : Int) (a2 : Int) (a3 : Int) (a4 : Int) (a5 : Int) (h0 : 0 ≤ a0 ∧ a0 ≤ 199 * a1) (h1 : ¬ ((12 : Int) ≤ a1)) (h2 : ((a3 = 2 ∨ a3 = 4 ∨ a3 = 5) ∧ a4 = 0 ∧ a5 = 29) ∨ (¬ (a3 = 2 ∨ a3 = 4 ∨ a3 = 5) ∧ a4 = -99 ∧ a5 = 99)) (h3 : a4 ≤ a2 ∧ a2 ≤ a5 + 1) (h4 : ¬ (a5 < a2)) : 0 ≤ 199 * a1 + a2 + 99 ∧ 199 * a1 + a2 + 99 < ((2388 : Nat) : Int) := by omega
theorem z_X11_fresh_45 (a0 : Int) (a1 : Int) (a2 : Int) (a3 : Int) (a4 : Int) (h0 : ((a2 = 2 ∨ a2 = 4 ∨ a2 = 5) ∧ a3 = 0 ∧ a4 = 29) ∨ (¬ (a2 = 2 ∨ a2 = 4 ∨ a2 = 5) ∧ a3 = -99 ∧ a4 = 99)) (h1 : ¬ (a4 < a0)) (h2 : a1 = (a0 + 1) ∨ (a0 + 1) < -2147483648 ∨ 2147483648 ≤ (a0 + 1)) (h3 : -2147483648 ≤ a0 ∧ a0 < 2147483648) : a1 = (a0 + 1) := by omega
theorem z_X11_fresh_46 (a0 : Int) (a1 : Int) (a2 : Int) (h0 : a1 ≤ a0 ∧ a0 ≤ a2 + 1) (h1 : ¬ (a2 < a0)) : a1 ≤ (a0 + 1) ∧ (a0 + 1) ≤ a2 + 1 := by omega
theorem z_X11_fresh_47 (a0 : Int) (a1 : Int) (a2 : Int) (a3 : Int) (a4 : Int) (a5 : Int) (a6 : Int) (a7 : Int) (a8 : Int) (a9 : Int) (a10 : Int) (a11 : Int) (h0 : a0 = a5 + a8) (h1 : a7 = a8 + a6) (h2 : a1 ≠ 0 → (a9 = a10 ∧ a11 ≠ a10 → a6 = 1) ∧ (¬ (a9 = a10 ∧ a11 ≠ a10) → a6 = 0)) (h3 : a3 = a10) (h4 : a4 = a11) (h5 : a1 ≠ 0) (h6 : a4 = a3) (h7 : a2 = a0 + (0 : Int) ∨ a0 + (0 : Int) < -2147483648 ∨ 2147483648 ≤ a0 + (0 : Int)) (h8 : -2147483648 ≤ a0 ∧ a0 < 2147483648) : a2 = a5 + a7 := by omega
theorem z_X11_fresh_48 (a0 : Int) (a1 : Int) (a2 : Int) (a3 : Int) (a4 : Int) (h0 : 0 ≤ a0 ∧ a0 ≤ 199 * a1 + (a2 - a4)) (h1 : a3 = a0 + (0 : Int) ∨ a0 + (0 : Int) < -2147483648 ∨ 2147483648 ≤ a0 + (0 : Int)) (h2 : -2147483648 ≤ a0 ∧ a0 < 2147483648) : 0 ≤ a3 ∧ a3 ≤ 199 * a1 + ((a2 + 1) - a4) := by omega
theorem z_X11_fresh_49 (a0 : Int) (a1 : Nat) (h0 : 2147483648 - a0 < ((a1 + 1 : Nat) : Int)) : 2147483648 - (a0 + 1) < ((a1 : Nat) : Int) := by omega
theorem z_X11_fresh_52 (a0 : Int) (a1 : Int) (a2 : Int) (a3 : Int) (a4 : Int) (a5 : Int) (a6 : Int) (a7 : Int) (a8 : Int) (a9 : Int) (a10 : Int) (a11 : Int) (a12 : Int) (a13 : Int) (a14 : Int) (a15 : Int) (a16 : Int) (a17 : Int) (h0 : ¬ ((12 : Int) ≤ a1)) (h1 : ((a5 = 2 ∨ a5 = 4 ∨ a5 = 5) ∧ a11 = 0 ∧ a12 = 29) ∨ (¬ (a5 = 2 ∨ a5 = 4 ∨ a5 = 5) ∧ a11 = -99 ∧ a12 = 99)) (h2 : a0 = a9 + a14) (h3 : 0 ≤ a0 ∧ a0 ≤ 199 * a1 + (a2 - a11)) (h4 : ¬ (a12 < a2)) (h5 : a13 = a14 + a10) (h6 : a3 ≠ 0 → (a15 = a16 ∧ a17 ≠ a16 → a10 = 1) ∧ (¬ (a15 = a16 ∧ a17 ≠ a16) → a10 = 0)) (h7 : a6 = a15) (h8 : a7 = a16) (h9 : a8 = a17) (h10 : a6 = a7) (h11 : a3 ≠ 0) (h12 : ¬ (a8 = a7)) (h13 : a4 = a0 + (1 : Int) ∨ a0 + (1 : Int) < -2147483648 ∨ 2147483648 ≤ a0 + (1 : Int)) : a4 = a9 + a13 := by omega
theorem z_X11_fresh_53 (a0 : Int) (a1 : Int) (a2 : Int) (a3 : Int) (a4 : Int) (a5 : Int) (a6 : Int) (h0 : ¬ ((12 : Int) ≤ a1)) (h1 : ((a4 = 2 ∨ a4 = 4 ∨ a4 = 5) ∧ a5 = 0 ∧ a6 = 29) ∨ (¬ (a4 = 2 ∨ a4 = 4 ∨ a4 = 5) ∧ a5 = -99 ∧ a6 = 99)) (h2 : 0 ≤ a0 ∧ a0 ≤ 199 * a1 + (a2 - a5)) (h3 : ¬ (a6 < a2)) (h4 : a3 = a0 + (1 : Int) ∨ a0 + (1 : Int) < -2147483648 ∨ 2147483648 ≤ a0 + (1 : Int)) : 0 ≤ a3 ∧ a3 ≤ 199 * a1 + ((a2 + 1) - a5) := by omega
theorem z_X11_fresh_57 (a0 : Int) (a1 : Int) (a2 : Int) (a3 : Int) (a4 : Int) (a5 : Int) (a6 : Int) (a7 : Int) (a8 : Int) (a9 : Int) (a10 : Int) (a11 : Int) (h0 : a0 = a5 + a8) (h1 : a7 = a8 + a6) (h2 : a1 = 0 → (a9 ≠ a10 ∧ a9 ≠ a11 → a6 = 1) ∧ (¬ (a9 ≠ a10 ∧ a9 ≠ a11) → a6 = 0)) (h3 : a3 = a9) (h4 : a4 = a10) (h5 : a3 = a4) (h6 : ¬ (a1 ≠ 0)) (h7 : a2 = a0 + (0 : Int) ∨ a0 + (0 : Int) < -2147483648 ∨ 2147483648 ≤ a0 + (0 : Int)) (h8 : -2147483648 ≤ a0 ∧ a0 < 2147483648) : a2 = a5 + a7 := by omega
theorem z_X11_fresh_62 (a0 : Int) (a1 : Int) (a2 : Int) (a3 : Int) (a4 : Int) (a5 : Int) (a6 : Int) (a7 : Int) (a8 : Int) (a9 : Int) (a10 : Int) (a11 : Int) (h0 : a0 = a5 + a8) (h1 : a7 = a8 + a6) (h2 : a1 ≠ 0 → (a9 = a10 ∧ a11 ≠ a10 → a6 = 1) ∧ (¬ (a9 = a10 ∧ a11 ≠ a10) → a6 = 0)) (h3 : a3 = a9) (h4 : a4 = a10) (h5 : ¬ (a3 = a4)) (h6 : a1 ≠ 0) (h7 : a2 = a0 + (0 : Int) ∨ a0 + (0 : Int) < -2147483648 ∨ 2147483648 ≤ a0 + (0 : Int)) (h8 : -2147483648 ≤ a0 ∧ a0 < 2147483648) : a2 = a5 + a7 := by omega
theorem z_X11_fresh_69 (a0 : Int) (a1 : Int) (a2 : Int) (a3 : Int) (a4 : Int) (a5 : Int) (a6 : Int) (a7 : Int) (a8 : Int) (a9 : Int) (a10 : Int) (a11 : Int) (h0 : a0 = a5 + a8) (h1 : a7 = a8 + a6) (h2 : a1 = 0 → (a9 ≠ a10 ∧ a9 ≠ a11 → a6 = 1) ∧ (¬ (a9 ≠ a10 ∧ a9 ≠ a11) → a6 = 0)) (h3 : a3 = a9) (h4 : a4 = a11) (h5 : ¬ (a1 ≠ 0)) (h6 : a3 = a4) (h7 : a2 = a0 + (0 : Int) ∨ a0 + (0 : Int) < -2147483648 ∨ 2147483648 ≤ a0 + (0 : Int)) (h8 : -2147483648 ≤ a0 ∧ a0 < 2147483648) : a2 = a5 + a7 := by omega
theorem z_X11_fresh_74 (a0 : Int) (a1 : Int) (a2 : Int) (a3 : Int) (a4 : Int) (a5 : Int) (a6 : Int) (a7 : Int) (a8 : Int) (a9 : Int) (a10 : Int) (a11 : Int) (a12 : Int) (a13 : Int) (a14 : Int) (a15 : Int) (a16 : Int) (a17 : Int) (h0 : ¬ ((12 : Int) ≤ a1)) (h1 : ((a5 = 2 ∨ a5 = 4 ∨ a5 = 5) ∧ a11 = 0 ∧ a12 = 29) ∨ (¬ (a5 = 2 ∨ a5 = 4 ∨ a5 = 5) ∧ a11 = -99 ∧ a12 = 99)) (h2 : a0 = a9 + a14) (h3 : 0 ≤ a0 ∧ a0 ≤ 199 * a1 + (a2 - a11)) (h4 : ¬ (a12 < a2)) (h5 : a13 = a14 + a10) (h6 : a3 = 0 → (a15 ≠ a16 ∧ a15 ≠ a17 → a10 = 1) ∧ (¬ (a15 ≠ a16 ∧ a15 ≠ a17) → a10 = 0)) (h7 : a6 = a15) (h8 : a7 = a16) (h9 : a8 = a17) (h10 : ¬ (a6 = a7)) (h11 : ¬ (a3 ≠ 0)) (h12 : ¬ (a6 = a8)) (h13 : a4 = a0 + (1 : Int) ∨ a0 + (1 : Int) < -2147483648 ∨ 2147483648 ≤ a0 + (1 : Int)) : a4 = a9 + a13 := by omega
theorem z_X11_fresh_77 (a0 : Int) (a1 : Int) (a2 : Int) (h0 : ((a0 = 2 ∨ a0 = 4 ∨ a0 = 5) ∧ a1 = 0 ∧ a2 = 29) ∨ (¬ (a0 = 2 ∨ a0 = 4 ∨ a0 = 5) ∧ a1 = -99 ∧ a2 = 99)) : a1 ≤ a1 ∧ a1 ≤ a2 + 1 := by omega
theorem z_X11_fresh_78 (a0 : Int) (a1 : Int) (a2 : Int) (h0 : a0 = a1) (h1 : a2 = 0) : a0 = a1 + a2 := by omega
theorem z_X11_fresh_79 (a0 : Int) (a1 : Int) (a2 : Int) (h0 : 0 ≤ a0 ∧ a0 ≤ 199 * a1) : 0 ≤ a0 ∧ a0 ≤ 199 * a1 + (a2 - a2) := by omega
theorem z_X11_fresh_80 (a0 : Int) (a1 : Int) (a2 : Int) (h0 : ((a0 = 2 ∨ a0 = 4 ∨ a0 = 5) ∧ a1 = 0 ∧ a2 = 29) ∨ (¬ (a0 = 2 ∨ a0 = 4 ∨ a0 = 5) ∧ a1 = -99 ∧ a2 = 99)) : 2147483648 - a1 < ((4294967297 : Nat) : Int) := by omega
theorem z_X11_fresh_81 (a0 : Int) (h0 : a0 = 0) : (0 : Int) = a0 := by omega
abbrev rm_X11_fresh : Room := { frames := 5, cells := 0, slots := 0, locals := 122 }
set_option maxHeartbeats 4000000 in
set_option maxRecDepth 100000 in
theorem c_X11_fresh (l : Launch) (E : XE) (K : Nat → Nat) (F : Nat → Nat → Nat) (G : XG) (a : Nat) (p0 : Int32) (p1 : Int32) (ha : K a = 13) (m0 : 0 ≤ ((G.1 a 7).toInt) ∧ ((G.1 a 7).toInt) ≤ 8) (hR : RV (G.2.1 (F a 10))) (hM : RM (G.2.1 (F a 1)) (0)) (hB : RM (G.2.1 (F a 2)) 0) (hmk : ∀ m : Int, 0 ≤ m → m < ((G.1 a 7).toInt) → RM (G.2.1 (F a 3)) (360 * m)) : Met l yX11_fresh (xw yX11_fresh cX11_fresh 8 (some .int)) rm_X11_fresh (va_Pc [.ref a, .int p0, .int p1] (XP E K F G)) (XQ E (fun v (u : XG) => ∃ r : Int32, v = .int r ∧ XFr [(a, 0), (a, 16), (a, 19)] [F a 15, F a 17, F a 18, F a 11, F a 13, F a 14] [] G u ∧ (((¬ (((G.1 a 6).toInt) ≠ 0 ∧ 0 ≤ p0.toInt ∧ p0.toInt ≤ ((G.1 a 7).toInt) - 1) ∨ p1.toInt < 0 ∨ 1 < p1.toInt) ∧ r.toInt = -1) ∨ ((((G.1 a 6).toInt) ≠ 0 ∧ 0 ≤ p0.toInt ∧ p0.toInt ≤ ((G.1 a 7).toInt) - 1) ∧ (0 ≤ p1.toInt ∧ p1.toInt ≤ 1) ∧ r.toInt = frA (G.2.1 (F a 10)) (mw (G.2.1 (F a 1)) 0) (mw (G.2.1 (F a 2)) 0) (mw (G.2.1 (F a 3)) (360 * p0.toInt)) p1.toInt 12))) (fun u H => TW E K F u H)) 0 0 (xA E) := by
  refine x_enter (by decide) (Nat.le_of_ble_eq_true rfl) ?_
  intro p e s m args below meth c Q S hr hlk hnm hQ hP ls hl
  obtain ⟨hz, hK, hT⟩ := hP
  obtain ⟨hx, hb, -, -, -⟩ := id S
  obtain ⟨H, hT, hS, hgo⟩ : ∃ H : Heap, TW E K F G H ∧ va_S (xA E) s.heap H [] ∧ H = s.heap := ⟨_, hT, va_S.rf, rfl⟩
  rw [← hgo]
  have hl : lv_has ls 8 [(0, .ref a), (1, .int p0), (2, .int p1)] := hl
  obtain ⟨hk9999, hj9999⟩ := fkX11_15 hT ha
  obtain ⟨hk9999a, hj9999a⟩ := fkX11_17 hT ha
  obtain ⟨hk9999b, hj9999b⟩ := fkX11_18 hT ha
  obtain ⟨hk9999c, hj9999c⟩ := fkX11_11 hT ha
  obtain ⟨hk9999d, hj9999d⟩ := fkX11_13 hT ha
  obtain ⟨hk9999e, hj9999e⟩ := fkX11_14 hT ha
  obtain ⟨hk9999f, hj9999f⟩ := fkX11_10 hT ha
  obtain ⟨hk9999g, hj9999g⟩ := fkX11_3 hT ha
  obtain ⟨hk9999h, hj9999h⟩ := fkX11_1 hT ha
  obtain ⟨hk9999i, hj9999i⟩ := fkX11_2 hT ha
  refine lv_aload_n hx hb dX11_fresh_0 rfl (lv_at hl 0 rfl) ?_
  refine lv_iconst (v := 0) hx hb dX11_fresh_1 (by decide) ?_
  refine pX11_0 (v := 0) S hK hT hS ha kf_X11_134 dX11_fresh_2 (fun H locs hT hS => ?_)
  obtain ⟨G2, hG2⟩ : ∃ GG : XG, GG = dput G a 0 0 := ⟨_, rfl⟩
  rw [← hG2] at hT
  refine lv_aload_n hx hb dX11_fresh_5 rfl (lv_at hl 0 rfl) ?_
  refine lv_iload_n hx hb dX11_fresh_6 rfl (lv_at hl 1 rfl) ?_
  refine x_clp (x_runV (b := a) (As := [.int p0]) (rest := []) S (c_X11_isMark l E K F G2 H a p0 ha) mv_X11_isMark km_X11_382 rfl rfl ⟨Nat.le_of_ble_eq_true rfl, Nat.le_of_ble_eq_true rfl⟩ (rc_13 hK hT ha) hK (fun _ => XPh.blind) (fun U hU hW => XPh.at hK hz hS hT hU hW) rfl hl.1 (Nat.le_of_ble_eq_true rfl) dX11_fresh_7 ⟨Nat.le_of_ble_eq_true rfl, Nat.le_of_ble_eq_true rfl⟩) hS ?_
  rintro _ _ locs ⟨x7, rfl, b7, t7⟩ hS
  have t7 : (((G.1 a 6).toInt) ≠ 0 ∧ 0 ≤ p0.toInt ∧ p0.toInt ≤ ((G.1 a 7).toInt) - 1 ∧ x7.toInt = 1) ∨ (¬ (((G.1 a 6).toInt) ≠ 0 ∧ 0 ≤ p0.toInt ∧ p0.toInt ≤ ((G.1 a 7).toInt) - 1) ∧ x7.toInt = 0) := by rw [(show (G2.1 a 6).toInt = ((G.1 a 6).toInt) from (congrArg Int32.toInt (ld_j hG2 (by decide))).trans (rfl : Int32.toInt (G.1 a 6) = ((G.1 a 6).toInt)))] at t7; rw [(show (G2.1 a 7).toInt = ((G.1 a 7).toInt) from (congrArg Int32.toInt (ld_j hG2 (by decide))).trans (rfl : Int32.toInt (G.1 a 7) = ((G.1 a 7).toInt)))] at t7; exact t7
  refine xi_zeq (tgt := 23) hx hb (rfl : Int32.toInt x7 = x7.toInt) dX11_fresh_10 (by decide) (fun c10 => ?_) (fun c10 => ?_)
  · refine lv_iconst (v := (-1)) hx hb dX11_fresh_23 (by decide) ?_
    exact x_ri hx hb hr hlk hQ (Nat.le_of_ble_eq_true rfl) (Nat.le_of_ble_eq_true rfl) hS dX11_fresh_24 G2 ⟨_, rfl, (by rw [hG2]; exact XFr.dput XFr.rf (List.mem_of_getElem? (i := 0) rfl)), (by rw [((by decide) : Int32.toInt (-1) = (-1 : Int))] <;> exact (v_X11_fresh_24_1 (K := K) (F := F) a G p0 x7 p1 ha m0 t7 c10))⟩ hT
  · refine lv_iload_n hx hb dX11_fresh_13 rfl (lv_at hl 2 rfl) ?_
    refine lv_i2l (v := p1.toInt64) hx hb dX11_fresh_14 rfl ?_
    refine lv_lconst (v := (0 : Int64)) hx hb dX11_fresh_15 (by decide) ?_
    refine lv_lconst (v := (1 : Int64)) hx hb dX11_fresh_16 (by decide) ?_
    refine x_clp (x_runS (As := [.long p1.toInt64, .long (0 : Int64), .long (1 : Int64)]) (rest := []) S (c_X11_in l E K F G2 H p1.toInt64 p1.toInt (0 : Int64) (0 : Int) (1 : Int64) (1 : Int) (xl_i2l (rfl : Int32.toInt p1 = p1.toInt)) (by decide) (by decide)) ms_X11_in km_X11_139 rfl rfl ⟨Nat.le_of_ble_eq_true rfl, Nat.le_of_ble_eq_true rfl⟩ hK (fun _ => XPh.blind) (fun U hU hW => XPh.at hK hz hS hT hU hW) rfl hl.1 (Nat.le_of_ble_eq_true rfl) dX11_fresh_17 ⟨Nat.le_of_ble_eq_true rfl, Nat.le_of_ble_eq_true rfl⟩) hS ?_
    rintro _ _ locs ⟨x17, rfl, b17, t17⟩ hS
    have t17 : (x17.toInt = 1 ∧ (0 : Int) ≤ p1.toInt ∧ p1.toInt ≤ (1 : Int)) ∨ (x17.toInt = 0 ∧ (p1.toInt < (0 : Int) ∨ (1 : Int) < p1.toInt)) := t17
    refine xi_zne (tgt := 25) hx hb (rfl : Int32.toInt x17 = x17.toInt) dX11_fresh_20 (by decide) (fun c20 => ?_) (fun c20 => ?_)
    · refine lv_aload_n hx hb dX11_fresh_25 rfl (lv_at hl 0 rfl) ?_
      refine x_cv0 (x_runV (b := a) (As := []) (rest := []) S (c_X11_findQueue l E K F G2 a ha (v_X11_fresh_26_2 (F := F) a G2 G hR (ld_c hG2)) (v_X11_fresh_26_3 (F := F) a G2 G hM hB (ld_c hG2)) (v_X11_fresh_26_4 (F := F) a G2 G hM hB (ld_c hG2))) mv_X11_findQueue km_X11_218 rfl rfl ⟨Nat.le_of_ble_eq_true rfl, Nat.le_of_ble_eq_true rfl⟩ (rc_13 hK hT ha) hK (fun _ => XP.blind) (fun U hU hW => XP.at hK hz hS hT hU hW) rfl hl.1 (Nat.le_of_ble_eq_true rfl) dX11_fresh_26 ⟨Nat.le_of_ble_eq_true rfl, Nat.le_of_ble_eq_true rfl⟩) hS ?_
      rintro G26 H locs ⟨hF26, t26, oq26, oq26a, oq26b⟩ hT hS
      have t26 : 0 ≤ ((G26.1 a 19).toInt) ∧ ((G26.1 a 19).toInt) ≤ 2388 := t26
      have oq26 : pL G26 F a = if ((G.1 a 6).toInt) = 0 then [] else fuO (G.2.1 (F a 10)) (mw (G.2.1 (F a 1)) 0) (mw (G.2.1 (F a 2)) 0) 1 := by simp only [(show G2.1 a 6 = G.1 a 6 from (ld_j hG2 (by decide))), (show G2.2.1 (F a 10) = G.2.1 (F a 10) from (ld_c hG2)), (show G2.2.1 (F a 1) = G.2.1 (F a 1) from (ld_c hG2)), (show G2.2.1 (F a 2) = G.2.1 (F a 2) from (ld_c hG2))] at oq26; exact oq26
      have oq26a : ((G.1 a 6).toInt) ≠ 0 → LSt (G.2.1 (F a 10)) (G26.2.1 (F a 11)) (mw (G.2.1 (F a 1)) 0) 12 ∧ LSt (G.2.1 (F a 10)) (G26.2.1 (F a 13)) (mw (G.2.1 (F a 2)) 0) 12 := by simp only [(show G2.1 a 6 = G.1 a 6 from (ld_j hG2 (by decide))), (show G2.2.1 (F a 10) = G.2.1 (F a 10) from (ld_c hG2)), (show G2.2.1 (F a 1) = G.2.1 (F a 1) from (ld_c hG2)), (show G2.2.1 (F a 2) = G.2.1 (F a 2) from (ld_c hG2))] at oq26a; exact oq26a
      refine lv_aload_n hx hb dX11_fresh_29 rfl (lv_at hl 0 rfl) ?_
      refine lv_aload_n hx hb dX11_fresh_30 rfl (lv_at hl 0 rfl) ?_
      refine gX11_14 S hK hT ha kf_X11_45 dX11_fresh_31 (fun _ _ => ?_)
      refine lv_aload_n hx hb dX11_fresh_34 rfl (lv_at hl 0 rfl) ?_
      refine gX11_3 S hK hT ha kf_X11_18 dX11_fresh_35 (fun _ _ => ?_)
      refine lv_sipush (v := 360) hx hb dX11_fresh_38 (by decide) ?_
      refine lv_iload_n hx hb dX11_fresh_41 rfl (lv_at hl 1 rfl) ?_
      refine xi_imul hx hb ((by decide) : Int32.toInt 360 = (360 : Int)) (rfl : Int32.toInt p0 = p0.toInt) dX11_fresh_42 (fun x42 t42 => ?_)
      have e42 : x42.toInt = ((360 : Int) * p0.toInt) := (z_X11_fresh_1 p0.toInt x42.toInt x7.toInt ((G.1 a 6).toInt) ((G.1 a 7).toInt) m0 t7 c10 t42)
      refine x_cv0 (x_runV (b := a) (As := [.ref (F a 14), .ref (F a 3), .int x42]) (rest := []) S (c_X11_layStates l E K F G26 a (F a 14) (F a 3) x42 ha hk9999e (XO.c hk9999g (by rw [(e42 : Int32.toInt x42 = ((360 : Int) * p0.toInt))] <;> exact (z_X11_fresh_2 p0.toInt x7.toInt ((G.1 a 6).toInt) ((G.1 a 7).toInt) m0 t7 c10))) (v_X11_fresh_43_5 (F := F) a G G26 hR ((hF26.2.1 _ (xn1 (xne_k hk9999f hk9999 (by decide)) (xn1 (xne_k hk9999f hk9999a (by decide)) (xn1 (xne_k hk9999f hk9999b (by decide)) (xn1 (xne_k hk9999f hk9999c (by decide)) (xn1 (xne_k hk9999f hk9999d (by decide)) xn0)))))).trans (ld_c hG2))) (by rw [(e42 : Int32.toInt x42 = ((360 : Int) * p0.toInt))] <;> exact (v_X11_fresh_43_6 (F := F) G a p0 x7 G26 hmk m0 t7 c10 ((hF26.2.1 _ (xn1 (xne_k hk9999g hk9999 (by decide)) (xn1 (xne_k hk9999g hk9999a (by decide)) (xn1 (xne_k hk9999g hk9999b (by decide)) (xn1 (xne_k hk9999g hk9999c (by decide)) (xn1 (xne_k hk9999g hk9999d (by decide)) xn0)))))).trans (ld_c hG2))))) mv_X11_layStates km_X11_210 rfl rfl ⟨Nat.le_of_ble_eq_true rfl, Nat.le_of_ble_eq_true rfl⟩ (rc_13 hK hT ha) hK (fun _ => XP.blind) (fun U hU hW => XP.at hK hz hS hT hU hW) rfl hl.1 (Nat.le_of_ble_eq_true rfl) dX11_fresh_43 ⟨Nat.le_of_ble_eq_true rfl, Nat.le_of_ble_eq_true rfl⟩) hS ?_
      rintro G43 H locs ⟨hF43, oq43, oq43a⟩ hT hS
      have oq43 : LSt (G.2.1 (F a 10)) (G43.2.1 (F a 14)) (mw (G.2.1 (F a 3)) ((360 : Int) * p0.toInt)) 12 := by simp only [(e42 : Int32.toInt x42 = ((360 : Int) * p0.toInt)), (show G26.2.1 (F a 10) = G.2.1 (F a 10) from ((hF26.2.1 _ (xn1 (xne_k hk9999f hk9999 (by decide)) (xn1 (xne_k hk9999f hk9999a (by decide)) (xn1 (xne_k hk9999f hk9999b (by decide)) (xn1 (xne_k hk9999f hk9999c (by decide)) (xn1 (xne_k hk9999f hk9999d (by decide)) xn0)))))).trans (ld_c hG2))), (show G26.2.1 (F a 3) = G.2.1 (F a 3) from ((hF26.2.1 _ (xn1 (xne_k hk9999g hk9999 (by decide)) (xn1 (xne_k hk9999g hk9999a (by decide)) (xn1 (xne_k hk9999g hk9999b (by decide)) (xn1 (xne_k hk9999g hk9999c (by decide)) (xn1 (xne_k hk9999g hk9999d (by decide)) xn0)))))).trans (ld_c hG2)))] at oq43; exact oq43
      refine lv_iconst (v := 0) hx hb dX11_fresh_46 (by decide) ?_
      refine lv_istore_n (lv' := [(3, .int 0), (0, .ref a), (1, .int p0), (2, .int p1)]) hx hb dX11_fresh_47 rfl hl (by decide) rfl (fun ls hl => ?_)
      have z48 : (frA (G.2.1 (F a 10)) (mw (G.2.1 (F a 1)) 0) (mw (G.2.1 (F a 2)) 0) (mw (G.2.1 (F a 3)) (360 * p0.toInt)) p1.toInt 0) = 0 := frA_0 _ _ _ _ _
      refine lv_iconst (v := 0) hx hb dX11_fresh_48 (by decide) ?_
      refine lv_istore (lv' := [(4, .int 0), (3, .int 0), (0, .ref a), (1, .int p0), (2, .int p1)]) hx hb dX11_fresh_49 hl (by decide) rfl (fun ls hl => ?_)
      have L51 : ∀ (N51 : Nat) (l3_51 : Int32) (l4_51 : Int32) (H : Heap) (locs : List Loc) (ls : Array Slot), 0 ≤ l4_51.toInt ∧ l4_51.toInt ≤ 12 → l3_51.toInt = (frA (G.2.1 (F a 10)) (mw (G.2.1 (F a 1)) 0) (mw (G.2.1 (F a 2)) 0) (mw (G.2.1 (F a 3)) (360 * p0.toInt)) p1.toInt (l4_51.toInt)) → 0 ≤ l3_51.toInt ∧ l3_51.toInt ≤ 199 * l4_51.toInt → 100 - l4_51.toInt < ((N51 : Nat) : Int) → TW E K F G43 H → va_S (xA E) s.heap H locs → lv_has ls 8 [(0, .ref a), (2, .int p1), (3, .int l3_51), (4, .int l4_51)] → W p l e rm_X11_fresh s m args below meth c H locs 0 0 Q (F0 m 51 ls []) := by
        intro N51
        induction N51 with
        | zero =>
          intro l3_51 l4_51 H locs ls I51_0 I51_1 I51_2 hm51
          exact absurd hm51 (z_X11_fresh_3 l4_51.toInt I51_0)
        | succ N51 ih51 =>
          intro l3_51 l4_51 H locs ls I51_0 I51_1 I51_2 hm51 hT hS hl
          refine lv_iload hx hb dX11_fresh_51 (lv_at hl 3 rfl) ?_
          have z53 : l4_51.toInt = 12 → (frA (G.2.1 (F a 10)) (mw (G.2.1 (F a 1)) 0) (mw (G.2.1 (F a 2)) 0) (mw (G.2.1 (F a 3)) (360 * p0.toInt)) p1.toInt (l4_51.toInt)) = (frA (G.2.1 (F a 10)) (mw (G.2.1 (F a 1)) 0) (mw (G.2.1 (F a 2)) 0) (mw (G.2.1 (F a 3)) (360 * p0.toInt)) p1.toInt 12) := fun h9 => by rw [h9]
          refine lv_bipush (v := 12) hx hb dX11_fresh_53 (by decide) ?_
          refine xi_cge (tgt := 207) hx hb (rfl : Int32.toInt l4_51 = l4_51.toInt) ((by decide) : Int32.toInt 12 = (12 : Int)) dX11_fresh_55 (by decide) (fun c55 => ?_) (fun c55 => ?_)
          · refine lv_iload_n hx hb dX11_fresh_207 rfl (lv_at hl 2 rfl) ?_
            exact x_ri hx hb hr hlk hQ (Nat.le_of_ble_eq_true rfl) (Nat.le_of_ble_eq_true rfl) hS dX11_fresh_208 G43 ⟨_, rfl, (XFr.call (XFr.call (by rw [hG2]; exact XFr.dput XFr.rf (List.mem_of_getElem? (i := 0) rfl)) hF26 (xm1 1 rfl (xm1 2 rfl xm0)) (xm1 0 rfl (xm1 1 rfl (xm1 2 rfl (xm1 3 rfl (xm1 4 rfl xm0))))) xm0) hF43 xm0 (xm1 5 rfl xm0) xm0), (v_X11_fresh_208_7 (K := K) (F := F) a G2 G G26 G43 p0 x7 x17 p1 l4_51 l3_51 N51 ha oq26a oq26b oq43a m0 t7 c10 t17 c20 t26 z48 I51_0 I51_1 I51_2 hm51 z53 c55)⟩ hT
          · have z58 : (frA (G.2.1 (F a 10)) (mw (G.2.1 (F a 1)) 0) (mw (G.2.1 (F a 2)) 0) (mw (G.2.1 (F a 3)) (360 * p0.toInt)) p1.toInt (l4_51.toInt + 1)) = (frA (G.2.1 (F a 10)) (mw (G.2.1 (F a 1)) 0) (mw (G.2.1 (F a 2)) 0) (mw (G.2.1 (F a 3)) (360 * p0.toInt)) p1.toInt (l4_51.toInt)) + (frQ (G.2.1 (F a 10)) (mw (G.2.1 (F a 1)) 0) (mw (G.2.1 (F a 2)) 0) (mw (G.2.1 (F a 3)) (360 * p0.toInt)) p1.toInt (l4_51.toInt)) := frA_s (z_X11_fresh_4 l4_51.toInt I51_0)
            have z58a : ((aI (G.2.1 (F a 10)) (10 * l4_51.toInt + 0)) ≠ -1 ∧ (aI (G.2.1 (F a 10)) (10 * l4_51.toInt + 6)) = 1 → (frQ (G.2.1 (F a 10)) (mw (G.2.1 (F a 1)) 0) (mw (G.2.1 (F a 2)) 0) (mw (G.2.1 (F a 3)) (360 * p0.toInt)) p1.toInt (l4_51.toInt)) = (smS (frI (G.2.1 (F a 10)) (mw (G.2.1 (F a 1)) 0) (mw (G.2.1 (F a 2)) 0) (mw (G.2.1 (F a 3)) (360 * p0.toInt)) p1.toInt (l4_51.toInt)) (sF (aI (G.2.1 (F a 10)) (10 * l4_51.toInt + 0))) (sL (aI (G.2.1 (F a 10)) (10 * l4_51.toInt + 0)) + 1))) ∧ (¬ ((aI (G.2.1 (F a 10)) (10 * l4_51.toInt + 0)) ≠ -1 ∧ (aI (G.2.1 (F a 10)) (10 * l4_51.toInt + 6)) = 1) → (frQ (G.2.1 (F a 10)) (mw (G.2.1 (F a 1)) 0) (mw (G.2.1 (F a 2)) 0) (mw (G.2.1 (F a 3)) (360 * p0.toInt)) p1.toInt (l4_51.toInt)) = 0) := frQ_st _ _ _ _ _ _
            refine lv_aload_n hx hb dX11_fresh_58 rfl (lv_at hl 0 rfl) ?_
            refine lv_iload hx hb dX11_fresh_59 (lv_at hl 3 rfl) ?_
            refine x_clp (x_runV (b := a) (As := [.int l4_51]) (rest := []) S (c_X11_isRule l E K F G43 H a l4_51 ha) mv_X11_isRule km_X11_162 rfl rfl ⟨Nat.le_of_ble_eq_true rfl, Nat.le_of_ble_eq_true rfl⟩ (rc_13 hK hT ha) hK (fun _ => XPh.blind) (fun U hU hW => XPh.at hK hz hS hT hU hW) rfl hl.1 (Nat.le_of_ble_eq_true rfl) dX11_fresh_61 ⟨Nat.le_of_ble_eq_true rfl, Nat.le_of_ble_eq_true rfl⟩) hS ?_
            rintro _ _ locs ⟨x61, rfl, b61, t61⟩ hS
            have t61 : (x61.toInt = 1 ∧ 0 ≤ l4_51.toInt ∧ l4_51.toInt ≤ 11 ∧ (aI (G.2.1 (F a 10)) (10 * l4_51.toInt + 0)) ≠ -1) ∨ (x61.toInt = 0 ∧ (¬ (0 ≤ l4_51.toInt ∧ l4_51.toInt ≤ 11) ∨ (aI (G.2.1 (F a 10)) (10 * l4_51.toInt + 0)) = -1)) := by rw [(show G43.2.1 (F a 10) = G.2.1 (F a 10) from ((hF43.2.1 _ (xn1 (xne_k hk9999f hk9999e (by decide)) xn0)).trans ((hF26.2.1 _ (xn1 (xne_k hk9999f hk9999 (by decide)) (xn1 (xne_k hk9999f hk9999a (by decide)) (xn1 (xne_k hk9999f hk9999b (by decide)) (xn1 (xne_k hk9999f hk9999c (by decide)) (xn1 (xne_k hk9999f hk9999d (by decide)) xn0)))))).trans (ld_c hG2))))] at t61; exact t61
            refine xi_zeq (tgt := 201) hx hb (rfl : Int32.toInt x61 = x61.toInt) dX11_fresh_64 (by decide) (fun c64 => ?_) (fun c64 => ?_)
            · refine xi_iinc (n := 1) (lv' := fun z9 => [(4, .int z9), (0, .ref a), (2, .int p1), (3, .int l3_51)]) (k := 3) hx hb (rfl : Int32.toInt l4_51 = l4_51.toInt) (by decide) dX11_fresh_201 hl rfl (by decide) (fun _ => rfl) (fun x201 ls t201 hl => ?_)
              have e201 : x201.toInt = (l4_51.toInt + 1) := (z_X11_fresh_5 l4_51.toInt x201.toInt I51_0 t201)
              have hl : lv_has ls 8 [(4, .int x201), (0, .ref a), (2, .int p1), (3, .int l3_51)] := hl
              refine lv_goto (tgt := 51) hx hb dX11_fresh_204 (by decide) ?_
              exact ih51 l3_51 x201 _ _ _ (by rw [(e201 : Int32.toInt x201 = (l4_51.toInt + 1))] <;> exact (z_X11_fresh_6 l4_51.toInt I51_0 c55)) (by rw [(e201 : Int32.toInt x201 = (l4_51.toInt + 1))] <;> exact (z_X11_fresh_7 l3_51.toInt l4_51.toInt x61.toInt (aI (G.2.1 (F a 10)) (10 * l4_51.toInt + 0)) (aI (G.2.1 (F a 10)) (10 * l4_51.toInt + 6)) (frA (G.2.1 (F a 10)) (mw (G.2.1 (F a 1)) 0) (mw (G.2.1 (F a 2)) 0) (mw (G.2.1 (F a 3)) (360 * p0.toInt)) p1.toInt (l4_51.toInt + 1)) (frA (G.2.1 (F a 10)) (mw (G.2.1 (F a 1)) 0) (mw (G.2.1 (F a 2)) 0) (mw (G.2.1 (F a 3)) (360 * p0.toInt)) p1.toInt (l4_51.toInt)) (frQ (G.2.1 (F a 10)) (mw (G.2.1 (F a 1)) 0) (mw (G.2.1 (F a 2)) 0) (mw (G.2.1 (F a 3)) (360 * p0.toInt)) p1.toInt (l4_51.toInt)) I51_0 I51_1 c55 z58 (z58a).2 t61 c64)) (by rw [(e201 : Int32.toInt x201 = (l4_51.toInt + 1))] <;> exact (z_X11_fresh_8 l3_51.toInt l4_51.toInt I51_2)) (by rw [(e201 : Int32.toInt x201 = (l4_51.toInt + 1))] <;> exact (z_X11_fresh_9 l4_51.toInt N51 hm51)) hT hS (lv_sub hl [1, 2, 3, 0] rfl)
            · refine lv_aload_n hx hb dX11_fresh_67 rfl (lv_at hl 0 rfl) ?_
              refine lv_iload hx hb dX11_fresh_68 (lv_at hl 3 rfl) ?_
              refine lv_bipush (v := 6) hx hb dX11_fresh_70 (by decide) ?_
              refine x_clp (x_runV (b := a) (As := [.int l4_51, .int 6]) (rest := []) S (c_X11_of l E K F G43 H a l4_51 6 ha (z_X11_fresh_10 l4_51.toInt I51_0 c55) (by decide)) mv_X11_of km_X11_165 rfl rfl ⟨Nat.le_of_ble_eq_true rfl, Nat.le_of_ble_eq_true rfl⟩ (rc_13 hK hT ha) hK (fun _ => XPh.blind) (fun U hU hW => XPh.at hK hz hS hT hU hW) rfl hl.1 (Nat.le_of_ble_eq_true rfl) dX11_fresh_72 ⟨Nat.le_of_ble_eq_true rfl, Nat.le_of_ble_eq_true rfl⟩) hS ?_
              rintro _ _ locs ⟨x72, rfl, t72⟩ hS
              have t72 : x72.toInt = (aI (G.2.1 (F a 10)) (10 * l4_51.toInt + 6)) := by rw [(show G43.2.1 (F a 10) = G.2.1 (F a 10) from ((hF43.2.1 _ (xn1 (xne_k hk9999f hk9999e (by decide)) xn0)).trans ((hF26.2.1 _ (xn1 (xne_k hk9999f hk9999 (by decide)) (xn1 (xne_k hk9999f hk9999a (by decide)) (xn1 (xne_k hk9999f hk9999b (by decide)) (xn1 (xne_k hk9999f hk9999c (by decide)) (xn1 (xne_k hk9999f hk9999d (by decide)) xn0)))))).trans (ld_c hG2))))] at t72; exact t72
              refine lv_iconst (v := 1) hx hb dX11_fresh_75 (by decide) ?_
              refine xi_cne (tgt := 201) hx hb (t72 : Int32.toInt x72 = (aI (G.2.1 (F a 10)) (10 * l4_51.toInt + 6))) ((by decide) : Int32.toInt 1 = (1 : Int)) dX11_fresh_76 (by decide) (fun c76 => ?_) (fun c76 => ?_)
              · refine xi_iinc (n := 1) (lv' := fun z9 => [(4, .int z9), (0, .ref a), (2, .int p1), (3, .int l3_51)]) (k := 3) hx hb (rfl : Int32.toInt l4_51 = l4_51.toInt) (by decide) dX11_fresh_201 hl rfl (by decide) (fun _ => rfl) (fun x201 ls t201 hl => ?_)
                have e201 : x201.toInt = (l4_51.toInt + 1) := (z_X11_fresh_5 l4_51.toInt x201.toInt I51_0 t201)
                have hl : lv_has ls 8 [(4, .int x201), (0, .ref a), (2, .int p1), (3, .int l3_51)] := hl
                refine lv_goto (tgt := 51) hx hb dX11_fresh_204 (by decide) ?_
                exact ih51 l3_51 x201 _ _ _ (by rw [(e201 : Int32.toInt x201 = (l4_51.toInt + 1))] <;> exact (z_X11_fresh_6 l4_51.toInt I51_0 c55)) (by rw [(e201 : Int32.toInt x201 = (l4_51.toInt + 1))] <;> exact (z_X11_fresh_13 l3_51.toInt (aI (G.2.1 (F a 10)) (10 * l4_51.toInt + 0)) (aI (G.2.1 (F a 10)) (10 * l4_51.toInt + 6)) (frA (G.2.1 (F a 10)) (mw (G.2.1 (F a 1)) 0) (mw (G.2.1 (F a 2)) 0) (mw (G.2.1 (F a 3)) (360 * p0.toInt)) p1.toInt (l4_51.toInt + 1)) (frA (G.2.1 (F a 10)) (mw (G.2.1 (F a 1)) 0) (mw (G.2.1 (F a 2)) 0) (mw (G.2.1 (F a 3)) (360 * p0.toInt)) p1.toInt (l4_51.toInt)) (frQ (G.2.1 (F a 10)) (mw (G.2.1 (F a 1)) 0) (mw (G.2.1 (F a 2)) 0) (mw (G.2.1 (F a 3)) (360 * p0.toInt)) p1.toInt (l4_51.toInt)) I51_1 z58 (z58a).2 c76)) (by rw [(e201 : Int32.toInt x201 = (l4_51.toInt + 1))] <;> exact (z_X11_fresh_8 l3_51.toInt l4_51.toInt I51_2)) (by rw [(e201 : Int32.toInt x201 = (l4_51.toInt + 1))] <;> exact (z_X11_fresh_9 l4_51.toInt N51 hm51)) hT hS (lv_sub hl [1, 2, 3, 0] rfl)
              · have z79 : (-1 ≤ (aI (G.2.1 (F a 10)) (10 * l4_51.toInt + 0)) ∧ (aI (G.2.1 (F a 10)) (10 * l4_51.toInt + 0)) ≤ 5) ∧ (0 ≤ (aI (G.2.1 (F a 10)) (10 * l4_51.toInt + 1)) ∧ (aI (G.2.1 (F a 10)) (10 * l4_51.toInt + 1)) ≤ 2) ∧ (0 ≤ (aI (G.2.1 (F a 10)) (10 * l4_51.toInt + 2)) ∧ (aI (G.2.1 (F a 10)) (10 * l4_51.toInt + 2)) ≤ 2) ∧ (-1 ≤ (aI (G.2.1 (F a 10)) (10 * l4_51.toInt + 3)) ∧ (aI (G.2.1 (F a 10)) (10 * l4_51.toInt + 3)) ≤ 2) ∧ ((aI (G.2.1 (F a 10)) (10 * l4_51.toInt + 0)) = 1 ∨ (aI (G.2.1 (F a 10)) (10 * l4_51.toInt + 0)) = 3 ∨ (aI (G.2.1 (F a 10)) (10 * l4_51.toInt + 0)) = 4 → 0 ≤ (aI (G.2.1 (F a 10)) (10 * l4_51.toInt + 3))) := RV.row hR (z_X11_fresh_10 l4_51.toInt I51_0 c55)
                have z79a : (((aI (G.2.1 (F a 10)) (10 * l4_51.toInt + 0)) = 2 ∨ (aI (G.2.1 (F a 10)) (10 * l4_51.toInt + 0)) = 4 ∨ (aI (G.2.1 (F a 10)) (10 * l4_51.toInt + 0)) = 5) ∧ (sF (aI (G.2.1 (F a 10)) (10 * l4_51.toInt + 0))) = 0 ∧ (sL (aI (G.2.1 (F a 10)) (10 * l4_51.toInt + 0))) = 29) ∨ (¬ ((aI (G.2.1 (F a 10)) (10 * l4_51.toInt + 0)) = 2 ∨ (aI (G.2.1 (F a 10)) (10 * l4_51.toInt + 0)) = 4 ∨ (aI (G.2.1 (F a 10)) (10 * l4_51.toInt + 0)) = 5) ∧ (sF (aI (G.2.1 (F a 10)) (10 * l4_51.toInt + 0))) = -99 ∧ (sL (aI (G.2.1 (F a 10)) (10 * l4_51.toInt + 0))) = 99) := sFL _
                have z79b : (smS (frI (G.2.1 (F a 10)) (mw (G.2.1 (F a 1)) 0) (mw (G.2.1 (F a 2)) 0) (mw (G.2.1 (F a 3)) (360 * p0.toInt)) p1.toInt (l4_51.toInt)) (sF (aI (G.2.1 (F a 10)) (10 * l4_51.toInt + 0))) (sF (aI (G.2.1 (F a 10)) (10 * l4_51.toInt + 0)))) = 0 := smS_0 _ _
                refine lv_aload_n hx hb dX11_fresh_79 rfl (lv_at hl 0 rfl) ?_
                refine lv_iload hx hb dX11_fresh_80 (lv_at hl 3 rfl) ?_
                refine x_clp (x_runV (b := a) (As := [.int l4_51]) (rest := []) S (c_X11_firstSubject l E K F G43 H a l4_51 ha (z_X11_fresh_10 l4_51.toInt I51_0 c55)) mv_X11_firstSubject km_X11_179 rfl rfl ⟨Nat.le_of_ble_eq_true rfl, Nat.le_of_ble_eq_true rfl⟩ (rc_13 hK hT ha) hK (fun _ => XPh.blind) (fun U hU hW => XPh.at hK hz hS hT hU hW) rfl hl.1 (Nat.le_of_ble_eq_true rfl) dX11_fresh_82 ⟨Nat.le_of_ble_eq_true rfl, Nat.le_of_ble_eq_true rfl⟩) hS ?_
                rintro _ _ locs ⟨x82, rfl, t82⟩ hS
                have t82 : x82.toInt = (sF (aI (G.2.1 (F a 10)) (10 * l4_51.toInt + 0))) := by rw [(show G43.2.1 (F a 10) = G.2.1 (F a 10) from ((hF43.2.1 _ (xn1 (xne_k hk9999f hk9999e (by decide)) xn0)).trans ((hF26.2.1 _ (xn1 (xne_k hk9999f hk9999 (by decide)) (xn1 (xne_k hk9999f hk9999a (by decide)) (xn1 (xne_k hk9999f hk9999b (by decide)) (xn1 (xne_k hk9999f hk9999c (by decide)) (xn1 (xne_k hk9999f hk9999d (by decide)) xn0)))))).trans (ld_c hG2))))] at t82; exact t82
                refine lv_istore (lv' := [(5, .int x82), (0, .ref a), (2, .int p1), (3, .int l3_51), (4, .int l4_51)]) hx hb dX11_fresh_85 hl (by decide) rfl (fun ls hl => ?_)
                have L87 : ∀ (N87 : Nat) (l3_87 : Int32) (l5_87 : Int32) (H : Heap) (locs : List Loc) (ls : Array Slot), (sF (aI (G.2.1 (F a 10)) (10 * l4_51.toInt + 0))) ≤ l5_87.toInt ∧ l5_87.toInt ≤ (sL (aI (G.2.1 (F a 10)) (10 * l4_51.toInt + 0))) + 1 → l3_87.toInt = (frA (G.2.1 (F a 10)) (mw (G.2.1 (F a 1)) 0) (mw (G.2.1 (F a 2)) 0) (mw (G.2.1 (F a 3)) (360 * p0.toInt)) p1.toInt (l4_51.toInt)) + (smS (frI (G.2.1 (F a 10)) (mw (G.2.1 (F a 1)) 0) (mw (G.2.1 (F a 2)) 0) (mw (G.2.1 (F a 3)) (360 * p0.toInt)) p1.toInt (l4_51.toInt)) (sF (aI (G.2.1 (F a 10)) (10 * l4_51.toInt + 0))) (l5_87.toInt)) → 0 ≤ l3_87.toInt ∧ l3_87.toInt ≤ 199 * l4_51.toInt + (l5_87.toInt - (sF (aI (G.2.1 (F a 10)) (10 * l4_51.toInt + 0)))) → 2147483648 - l5_87.toInt < ((N87 : Nat) : Int) → TW E K F G43 H → va_S (xA E) s.heap H locs → lv_has ls 8 [(0, .ref a), (2, .int p1), (3, .int l3_87), (4, .int l4_51), (5, .int l5_87)] → W p l e rm_X11_fresh s m args below meth c H locs 0 0 Q (F0 m 87 ls []) := by
                  intro N87
                  induction N87 with
                  | zero =>
                    intro l3_87 l5_87 H locs ls I87_0 I87_1 I87_2 hm87
                    exact absurd hm87 (z_X11_fresh_18 l5_87.toInt (xr l5_87))
                  | succ N87 ih87 =>
                    intro l3_87 l5_87 H locs ls I87_0 I87_1 I87_2 hm87 hT hS hl
                    refine lv_iload hx hb dX11_fresh_87 (lv_at hl 4 rfl) ?_
                    have z89 : l5_87.toInt = (sL (aI (G.2.1 (F a 10)) (10 * l4_51.toInt + 0))) + 1 → (smS (frI (G.2.1 (F a 10)) (mw (G.2.1 (F a 1)) 0) (mw (G.2.1 (F a 2)) 0) (mw (G.2.1 (F a 3)) (360 * p0.toInt)) p1.toInt (l4_51.toInt)) (sF (aI (G.2.1 (F a 10)) (10 * l4_51.toInt + 0))) (l5_87.toInt)) = (smS (frI (G.2.1 (F a 10)) (mw (G.2.1 (F a 1)) 0) (mw (G.2.1 (F a 2)) 0) (mw (G.2.1 (F a 3)) (360 * p0.toInt)) p1.toInt (l4_51.toInt)) (sF (aI (G.2.1 (F a 10)) (10 * l4_51.toInt + 0))) (sL (aI (G.2.1 (F a 10)) (10 * l4_51.toInt + 0)) + 1)) := fun h9 => by rw [h9]
                    refine lv_aload_n hx hb dX11_fresh_89 rfl (lv_at hl 0 rfl) ?_
                    refine lv_iload hx hb dX11_fresh_90 (lv_at hl 3 rfl) ?_
                    refine x_clp (x_runV (b := a) (As := [.int l4_51]) (rest := [.int l5_87]) S (c_X11_lastSubject l E K F G43 H a l4_51 ha (z_X11_fresh_10 l4_51.toInt I51_0 c55)) mv_X11_lastSubject km_X11_183 rfl rfl ⟨Nat.le_of_ble_eq_true rfl, Nat.le_of_ble_eq_true rfl⟩ (rc_13 hK hT ha) hK (fun _ => XPh.blind) (fun U hU hW => XPh.at hK hz hS hT hU hW) rfl hl.1 (Nat.le_of_ble_eq_true rfl) dX11_fresh_92 ⟨Nat.le_of_ble_eq_true rfl, Nat.le_of_ble_eq_true rfl⟩) hS ?_
                    rintro _ _ locs ⟨x92, rfl, t92⟩ hS
                    have t92 : x92.toInt = (sL (aI (G.2.1 (F a 10)) (10 * l4_51.toInt + 0))) := by rw [(show G43.2.1 (F a 10) = G.2.1 (F a 10) from ((hF43.2.1 _ (xn1 (xne_k hk9999f hk9999e (by decide)) xn0)).trans ((hF26.2.1 _ (xn1 (xne_k hk9999f hk9999 (by decide)) (xn1 (xne_k hk9999f hk9999a (by decide)) (xn1 (xne_k hk9999f hk9999b (by decide)) (xn1 (xne_k hk9999f hk9999c (by decide)) (xn1 (xne_k hk9999f hk9999d (by decide)) xn0)))))).trans (ld_c hG2))))] at t92; exact t92
                    refine xi_cgt (tgt := 201) hx hb (rfl : Int32.toInt l5_87 = l5_87.toInt) (t92 : Int32.toInt x92 = (sL (aI (G.2.1 (F a 10)) (10 * l4_51.toInt + 0)))) dX11_fresh_95 (by decide) (fun c95 => ?_) (fun c95 => ?_)
                    · refine xi_iinc (n := 1) (lv' := fun z9 => [(4, .int z9), (0, .ref a), (2, .int p1), (3, .int l3_87), (5, .int l5_87)]) (k := 3) hx hb (rfl : Int32.toInt l4_51 = l4_51.toInt) (by decide) dX11_fresh_201 hl rfl (by decide) (fun _ => rfl) (fun x201 ls t201 hl => ?_)
                      have e201 : x201.toInt = (l4_51.toInt + 1) := (z_X11_fresh_5 l4_51.toInt x201.toInt I51_0 t201)
                      have hl : lv_has ls 8 [(4, .int x201), (0, .ref a), (2, .int p1), (3, .int l3_87), (5, .int l5_87)] := hl
                      refine lv_goto (tgt := 51) hx hb dX11_fresh_204 (by decide) ?_
                      exact ih51 l3_87 x201 _ _ _ (by rw [(e201 : Int32.toInt x201 = (l4_51.toInt + 1))] <;> exact (z_X11_fresh_6 l4_51.toInt I51_0 c55)) (by rw [(e201 : Int32.toInt x201 = (l4_51.toInt + 1))] <;> exact (z_X11_fresh_22 l3_87.toInt l4_51.toInt l5_87.toInt x61.toInt (aI (G.2.1 (F a 10)) (10 * l4_51.toInt + 0)) (aI (G.2.1 (F a 10)) (10 * l4_51.toInt + 6)) (frA (G.2.1 (F a 10)) (mw (G.2.1 (F a 1)) 0) (mw (G.2.1 (F a 2)) 0) (mw (G.2.1 (F a 3)) (360 * p0.toInt)) p1.toInt (l4_51.toInt + 1)) (frA (G.2.1 (F a 10)) (mw (G.2.1 (F a 1)) 0) (mw (G.2.1 (F a 2)) 0) (mw (G.2.1 (F a 3)) (360 * p0.toInt)) p1.toInt (l4_51.toInt)) (frQ (G.2.1 (F a 10)) (mw (G.2.1 (F a 1)) 0) (mw (G.2.1 (F a 2)) 0) (mw (G.2.1 (F a 3)) (360 * p0.toInt)) p1.toInt (l4_51.toInt)) (sF (aI (G.2.1 (F a 10)) (10 * l4_51.toInt + 0))) (sL (aI (G.2.1 (F a 10)) (10 * l4_51.toInt + 0))) (smS (frI (G.2.1 (F a 10)) (mw (G.2.1 (F a 1)) 0) (mw (G.2.1 (F a 2)) 0) (mw (G.2.1 (F a 3)) (360 * p0.toInt)) p1.toInt (l4_51.toInt)) (sF (aI (G.2.1 (F a 10)) (10 * l4_51.toInt + 0))) (l5_87.toInt)) (smS (frI (G.2.1 (F a 10)) (mw (G.2.1 (F a 1)) 0) (mw (G.2.1 (F a 2)) 0) (mw (G.2.1 (F a 3)) (360 * p0.toInt)) p1.toInt (l4_51.toInt)) (sF (aI (G.2.1 (F a 10)) (10 * l4_51.toInt + 0))) (sL (aI (G.2.1 (F a 10)) (10 * l4_51.toInt + 0)) + 1)) z58 (z58a).1 t61 c64 c76 I87_0 I87_1 z89 c95)) (by rw [(e201 : Int32.toInt x201 = (l4_51.toInt + 1))] <;> exact (z_X11_fresh_23 l3_87.toInt l4_51.toInt l5_87.toInt (aI (G.2.1 (F a 10)) (10 * l4_51.toInt + 0)) (sF (aI (G.2.1 (F a 10)) (10 * l4_51.toInt + 0))) (sL (aI (G.2.1 (F a 10)) (10 * l4_51.toInt + 0))) z79a I87_0 I87_2)) (by rw [(e201 : Int32.toInt x201 = (l4_51.toInt + 1))] <;> exact (z_X11_fresh_9 l4_51.toInt N51 hm51)) hT hS (lv_sub hl [1, 2, 3, 0] rfl)
                    · have z98 : (smS (frI (G.2.1 (F a 10)) (mw (G.2.1 (F a 1)) 0) (mw (G.2.1 (F a 2)) 0) (mw (G.2.1 (F a 3)) (360 * p0.toInt)) p1.toInt (l4_51.toInt)) (sF (aI (G.2.1 (F a 10)) (10 * l4_51.toInt + 0))) (l5_87.toInt + 1)) = (smS (frI (G.2.1 (F a 10)) (mw (G.2.1 (F a 1)) 0) (mw (G.2.1 (F a 2)) 0) (mw (G.2.1 (F a 3)) (360 * p0.toInt)) p1.toInt (l4_51.toInt)) (sF (aI (G.2.1 (F a 10)) (10 * l4_51.toInt + 0))) (l5_87.toInt)) + (frI (G.2.1 (F a 10)) (mw (G.2.1 (F a 1)) 0) (mw (G.2.1 (F a 2)) 0) (mw (G.2.1 (F a 3)) (360 * p0.toInt)) p1.toInt (l4_51.toInt) (l5_87.toInt)) := smS_s (z_X11_fresh_25 l5_87.toInt (sF (aI (G.2.1 (F a 10)) (10 * l4_51.toInt + 0))) (sL (aI (G.2.1 (F a 10)) (10 * l4_51.toInt + 0))) I87_0)
                      have z98a : (p1.toInt = 0 → ((stt (mw (G.2.1 (F a 1)) 0) (aI (G.2.1 (F a 10)) (10 * l4_51.toInt + 0)) (aI (G.2.1 (F a 10)) (10 * l4_51.toInt + 1)) (aI (G.2.1 (F a 10)) (10 * l4_51.toInt + 2)) (aI (G.2.1 (F a 10)) (10 * l4_51.toInt + 3)) (l5_87.toInt)) ≠ (stt (mw (G.2.1 (F a 2)) 0) (aI (G.2.1 (F a 10)) (10 * l4_51.toInt + 0)) (aI (G.2.1 (F a 10)) (10 * l4_51.toInt + 1)) (aI (G.2.1 (F a 10)) (10 * l4_51.toInt + 2)) (aI (G.2.1 (F a 10)) (10 * l4_51.toInt + 3)) (l5_87.toInt)) ∧ (stt (mw (G.2.1 (F a 1)) 0) (aI (G.2.1 (F a 10)) (10 * l4_51.toInt + 0)) (aI (G.2.1 (F a 10)) (10 * l4_51.toInt + 1)) (aI (G.2.1 (F a 10)) (10 * l4_51.toInt + 2)) (aI (G.2.1 (F a 10)) (10 * l4_51.toInt + 3)) (l5_87.toInt)) ≠ (stt (mw (G.2.1 (F a 3)) (360 * p0.toInt)) (aI (G.2.1 (F a 10)) (10 * l4_51.toInt + 0)) (aI (G.2.1 (F a 10)) (10 * l4_51.toInt + 1)) (aI (G.2.1 (F a 10)) (10 * l4_51.toInt + 2)) (aI (G.2.1 (F a 10)) (10 * l4_51.toInt + 3)) (l5_87.toInt)) → (frI (G.2.1 (F a 10)) (mw (G.2.1 (F a 1)) 0) (mw (G.2.1 (F a 2)) 0) (mw (G.2.1 (F a 3)) (360 * p0.toInt)) p1.toInt (l4_51.toInt) (l5_87.toInt)) = 1) ∧ (¬ ((stt (mw (G.2.1 (F a 1)) 0) (aI (G.2.1 (F a 10)) (10 * l4_51.toInt + 0)) (aI (G.2.1 (F a 10)) (10 * l4_51.toInt + 1)) (aI (G.2.1 (F a 10)) (10 * l4_51.toInt + 2)) (aI (G.2.1 (F a 10)) (10 * l4_51.toInt + 3)) (l5_87.toInt)) ≠ (stt (mw (G.2.1 (F a 2)) 0) (aI (G.2.1 (F a 10)) (10 * l4_51.toInt + 0)) (aI (G.2.1 (F a 10)) (10 * l4_51.toInt + 1)) (aI (G.2.1 (F a 10)) (10 * l4_51.toInt + 2)) (aI (G.2.1 (F a 10)) (10 * l4_51.toInt + 3)) (l5_87.toInt)) ∧ (stt (mw (G.2.1 (F a 1)) 0) (aI (G.2.1 (F a 10)) (10 * l4_51.toInt + 0)) (aI (G.2.1 (F a 10)) (10 * l4_51.toInt + 1)) (aI (G.2.1 (F a 10)) (10 * l4_51.toInt + 2)) (aI (G.2.1 (F a 10)) (10 * l4_51.toInt + 3)) (l5_87.toInt)) ≠ (stt (mw (G.2.1 (F a 3)) (360 * p0.toInt)) (aI (G.2.1 (F a 10)) (10 * l4_51.toInt + 0)) (aI (G.2.1 (F a 10)) (10 * l4_51.toInt + 1)) (aI (G.2.1 (F a 10)) (10 * l4_51.toInt + 2)) (aI (G.2.1 (F a 10)) (10 * l4_51.toInt + 3)) (l5_87.toInt))) → (frI (G.2.1 (F a 10)) (mw (G.2.1 (F a 1)) 0) (mw (G.2.1 (F a 2)) 0) (mw (G.2.1 (F a 3)) (360 * p0.toInt)) p1.toInt (l4_51.toInt) (l5_87.toInt)) = 0)) ∧ (p1.toInt ≠ 0 → ((stt (mw (G.2.1 (F a 1)) 0) (aI (G.2.1 (F a 10)) (10 * l4_51.toInt + 0)) (aI (G.2.1 (F a 10)) (10 * l4_51.toInt + 1)) (aI (G.2.1 (F a 10)) (10 * l4_51.toInt + 2)) (aI (G.2.1 (F a 10)) (10 * l4_51.toInt + 3)) (l5_87.toInt)) = (stt (mw (G.2.1 (F a 2)) 0) (aI (G.2.1 (F a 10)) (10 * l4_51.toInt + 0)) (aI (G.2.1 (F a 10)) (10 * l4_51.toInt + 1)) (aI (G.2.1 (F a 10)) (10 * l4_51.toInt + 2)) (aI (G.2.1 (F a 10)) (10 * l4_51.toInt + 3)) (l5_87.toInt)) ∧ (stt (mw (G.2.1 (F a 3)) (360 * p0.toInt)) (aI (G.2.1 (F a 10)) (10 * l4_51.toInt + 0)) (aI (G.2.1 (F a 10)) (10 * l4_51.toInt + 1)) (aI (G.2.1 (F a 10)) (10 * l4_51.toInt + 2)) (aI (G.2.1 (F a 10)) (10 * l4_51.toInt + 3)) (l5_87.toInt)) ≠ (stt (mw (G.2.1 (F a 2)) 0) (aI (G.2.1 (F a 10)) (10 * l4_51.toInt + 0)) (aI (G.2.1 (F a 10)) (10 * l4_51.toInt + 1)) (aI (G.2.1 (F a 10)) (10 * l4_51.toInt + 2)) (aI (G.2.1 (F a 10)) (10 * l4_51.toInt + 3)) (l5_87.toInt)) → (frI (G.2.1 (F a 10)) (mw (G.2.1 (F a 1)) 0) (mw (G.2.1 (F a 2)) 0) (mw (G.2.1 (F a 3)) (360 * p0.toInt)) p1.toInt (l4_51.toInt) (l5_87.toInt)) = 1) ∧ (¬ ((stt (mw (G.2.1 (F a 1)) 0) (aI (G.2.1 (F a 10)) (10 * l4_51.toInt + 0)) (aI (G.2.1 (F a 10)) (10 * l4_51.toInt + 1)) (aI (G.2.1 (F a 10)) (10 * l4_51.toInt + 2)) (aI (G.2.1 (F a 10)) (10 * l4_51.toInt + 3)) (l5_87.toInt)) = (stt (mw (G.2.1 (F a 2)) 0) (aI (G.2.1 (F a 10)) (10 * l4_51.toInt + 0)) (aI (G.2.1 (F a 10)) (10 * l4_51.toInt + 1)) (aI (G.2.1 (F a 10)) (10 * l4_51.toInt + 2)) (aI (G.2.1 (F a 10)) (10 * l4_51.toInt + 3)) (l5_87.toInt)) ∧ (stt (mw (G.2.1 (F a 3)) (360 * p0.toInt)) (aI (G.2.1 (F a 10)) (10 * l4_51.toInt + 0)) (aI (G.2.1 (F a 10)) (10 * l4_51.toInt + 1)) (aI (G.2.1 (F a 10)) (10 * l4_51.toInt + 2)) (aI (G.2.1 (F a 10)) (10 * l4_51.toInt + 3)) (l5_87.toInt)) ≠ (stt (mw (G.2.1 (F a 2)) 0) (aI (G.2.1 (F a 10)) (10 * l4_51.toInt + 0)) (aI (G.2.1 (F a 10)) (10 * l4_51.toInt + 1)) (aI (G.2.1 (F a 10)) (10 * l4_51.toInt + 2)) (aI (G.2.1 (F a 10)) (10 * l4_51.toInt + 3)) (l5_87.toInt))) → (frI (G.2.1 (F a 10)) (mw (G.2.1 (F a 1)) 0) (mw (G.2.1 (F a 2)) 0) (mw (G.2.1 (F a 3)) (360 * p0.toInt)) p1.toInt (l4_51.toInt) (l5_87.toInt)) = 0)) := frI_st _ _ _ _ _ _ _
                      have z98b : (aI (G26.2.1 (F a 11)) (199 * l4_51.toInt + l5_87.toInt + 99)) = (stt (mw (G.2.1 (F a 1)) 0) (aI (G.2.1 (F a 10)) (10 * l4_51.toInt + 0)) (aI (G.2.1 (F a 10)) (10 * l4_51.toInt + 1)) (aI (G.2.1 (F a 10)) (10 * l4_51.toInt + 2)) (aI (G.2.1 (F a 10)) (10 * l4_51.toInt + 3)) (l5_87.toInt)) := (oq26a (z_X11_fresh_26 p0.toInt x7.toInt ((G.1 a 6).toInt) ((G.1 a 7).toInt) t7 c10)).1 _ _ (z_X11_fresh_4 l4_51.toInt I51_0) (z_X11_fresh_28 l4_51.toInt c55) (z_X11_fresh_29 l4_51.toInt x61.toInt (aI (G.2.1 (F a 10)) (10 * l4_51.toInt + 0)) t61 c64) (sbj_FL.mpr (z_X11_fresh_30 l5_87.toInt (sF (aI (G.2.1 (F a 10)) (10 * l4_51.toInt + 0))) (sL (aI (G.2.1 (F a 10)) (10 * l4_51.toInt + 0))) I87_0 c95))
                      have z98c : (aI (G26.2.1 (F a 13)) (199 * l4_51.toInt + l5_87.toInt + 99)) = (stt (mw (G.2.1 (F a 2)) 0) (aI (G.2.1 (F a 10)) (10 * l4_51.toInt + 0)) (aI (G.2.1 (F a 10)) (10 * l4_51.toInt + 1)) (aI (G.2.1 (F a 10)) (10 * l4_51.toInt + 2)) (aI (G.2.1 (F a 10)) (10 * l4_51.toInt + 3)) (l5_87.toInt)) := (oq26a (z_X11_fresh_26 p0.toInt x7.toInt ((G.1 a 6).toInt) ((G.1 a 7).toInt) t7 c10)).2 _ _ (z_X11_fresh_4 l4_51.toInt I51_0) (z_X11_fresh_28 l4_51.toInt c55) (z_X11_fresh_29 l4_51.toInt x61.toInt (aI (G.2.1 (F a 10)) (10 * l4_51.toInt + 0)) t61 c64) (sbj_FL.mpr (z_X11_fresh_30 l5_87.toInt (sF (aI (G.2.1 (F a 10)) (10 * l4_51.toInt + 0))) (sL (aI (G.2.1 (F a 10)) (10 * l4_51.toInt + 0))) I87_0 c95))
                      have z98d : (aI (G43.2.1 (F a 14)) (199 * l4_51.toInt + l5_87.toInt + 99)) = (stt (mw (G.2.1 (F a 3)) (360 * p0.toInt)) (aI (G.2.1 (F a 10)) (10 * l4_51.toInt + 0)) (aI (G.2.1 (F a 10)) (10 * l4_51.toInt + 1)) (aI (G.2.1 (F a 10)) (10 * l4_51.toInt + 2)) (aI (G.2.1 (F a 10)) (10 * l4_51.toInt + 3)) (l5_87.toInt)) := oq43 _ _ (z_X11_fresh_4 l4_51.toInt I51_0) (z_X11_fresh_28 l4_51.toInt c55) (z_X11_fresh_29 l4_51.toInt x61.toInt (aI (G.2.1 (F a 10)) (10 * l4_51.toInt + 0)) t61 c64) (sbj_FL.mpr (z_X11_fresh_30 l5_87.toInt (sF (aI (G.2.1 (F a 10)) (10 * l4_51.toInt + 0))) (sL (aI (G.2.1 (F a 10)) (10 * l4_51.toInt + 0))) I87_0 c95))
                      refine lv_iload hx hb dX11_fresh_98 (lv_at hl 3 rfl) ?_
                      refine lv_iload hx hb dX11_fresh_100 (lv_at hl 4 rfl) ?_
                      refine x_clp (x_runS (As := [.int l4_51, .int l5_87]) (rest := []) S (c_X11_placeOf l E K F G43 H l4_51 l5_87 (z_X11_fresh_40 l4_51.toInt l5_87.toInt (aI (G.2.1 (F a 10)) (10 * l4_51.toInt + 0)) (sF (aI (G.2.1 (F a 10)) (10 * l4_51.toInt + 0))) (sL (aI (G.2.1 (F a 10)) (10 * l4_51.toInt + 0))) I51_0 c55 z79a I87_0 c95)) ms_X11_placeOf km_X11_186 rfl rfl ⟨Nat.le_of_ble_eq_true rfl, Nat.le_of_ble_eq_true rfl⟩ hK (fun _ => XPh.blind) (fun U hU hW => XPh.at hK hz hS hT hU hW) rfl hl.1 (Nat.le_of_ble_eq_true rfl) dX11_fresh_102 ⟨Nat.le_of_ble_eq_true rfl, Nat.le_of_ble_eq_true rfl⟩) hS ?_
                      rintro _ _ locs ⟨x102, rfl, t102⟩ hS
                      have t102 : x102.toInt = 199 * l4_51.toInt + l5_87.toInt + 99 := t102
                      refine lv_istore (lv' := [(6, .int x102), (0, .ref a), (2, .int p1), (3, .int l3_87), (4, .int l4_51), (5, .int l5_87)]) hx hb dX11_fresh_105 hl (by decide) rfl (fun ls hl => ?_)
                      refine lv_aload_n hx hb dX11_fresh_107 rfl (lv_at hl 1 rfl) ?_
                      refine gX11_11 S hK hT ha kf_X11_36 dX11_fresh_108 (fun _ _ => ?_)
                      refine lv_iload hx hb dX11_fresh_111 (lv_at hl 0 rfl) ?_
                      refine al_0 S hK hT hk9999c ar_38 (by decide) (by rw [(t102 : Int32.toInt x102 = 199 * l4_51.toInt + l5_87.toInt + 99)]; exact (z_X11_fresh_41 l3_51.toInt l4_51.toInt l5_87.toInt (aI (G.2.1 (F a 10)) (10 * l4_51.toInt + 0)) (sF (aI (G.2.1 (F a 10)) (10 * l4_51.toInt + 0))) (sL (aI (G.2.1 (F a 10)) (10 * l4_51.toInt + 0))) I51_2 c55 z79a I87_0 c95)) dX11_fresh_113 (fun x113 hv113 o113 => ?_)
                      have hv113 : x113.toInt = (aI (G26.2.1 (F a 11)) (199 * l4_51.toInt + l5_87.toInt + 99)) := hv113.trans (by rw [(t102 : Int32.toInt x102 = 199 * l4_51.toInt + l5_87.toInt + 99), ((hF43.2.1 _ (xn1 (xne_j hj9999c hj9999e (by first | decide | omega)) xn0)) : G43.2.1 (F a 11) = G26.2.1 (F a 11))])
                      refine lv_aload_n hx hb dX11_fresh_114 rfl (lv_at hl 1 rfl) ?_
                      refine gX11_13 S hK hT ha kf_X11_42 dX11_fresh_115 (fun _ _ => ?_)
                      refine lv_iload hx hb dX11_fresh_118 (lv_at hl 0 rfl) ?_
                      refine al_0 S hK hT hk9999d ar_38 (by decide) (by rw [(t102 : Int32.toInt x102 = 199 * l4_51.toInt + l5_87.toInt + 99)]; exact (z_X11_fresh_41 l3_51.toInt l4_51.toInt l5_87.toInt (aI (G.2.1 (F a 10)) (10 * l4_51.toInt + 0)) (sF (aI (G.2.1 (F a 10)) (10 * l4_51.toInt + 0))) (sL (aI (G.2.1 (F a 10)) (10 * l4_51.toInt + 0))) I51_2 c55 z79a I87_0 c95)) dX11_fresh_120 (fun x120 hv120 o120 => ?_)
                      have hv120 : x120.toInt = (aI (G26.2.1 (F a 13)) (199 * l4_51.toInt + l5_87.toInt + 99)) := hv120.trans (by rw [(t102 : Int32.toInt x102 = 199 * l4_51.toInt + l5_87.toInt + 99), ((hF43.2.1 _ (xn1 (xne_j hj9999d hj9999e (by first | decide | omega)) xn0)) : G43.2.1 (F a 13) = G26.2.1 (F a 13))])
                      refine xi_ceq (tgt := 128) hx hb (hv113 : Int32.toInt x113 = (aI (G26.2.1 (F a 11)) (199 * l4_51.toInt + l5_87.toInt + 99))) (hv120 : Int32.toInt x120 = (aI (G26.2.1 (F a 13)) (199 * l4_51.toInt + l5_87.toInt + 99))) dX11_fresh_121 (by decide) (fun c121 => ?_) (fun c121 => ?_)
                      · refine lv_iconst (v := 0) hx hb dX11_fresh_128 (by decide) ?_
                        refine lv_istore (lv' := [(7, .int 0), (6, .int x102), (0, .ref a), (2, .int p1), (3, .int l3_87), (4, .int l4_51), (5, .int l5_87)]) hx hb dX11_fresh_129 hl (by decide) rfl (fun ls hl => ?_)
                        refine lv_iload_n hx hb dX11_fresh_131 rfl (lv_at hl 4 rfl) ?_
                        refine lv_iload_n hx hb dX11_fresh_132 rfl (lv_at hl 3 rfl) ?_
                        refine xi_zne (tgt := 166) hx hb (rfl : Int32.toInt p1 = p1.toInt) dX11_fresh_133 (by decide) (fun c133 => ?_) (fun c133 => ?_)
                        · refine lv_iload hx hb dX11_fresh_166 (lv_at hl 0 rfl) ?_
                          refine xi_zne (tgt := 192) hx hb ((by decide) : Int32.toInt 0 = (0 : Int)) dX11_fresh_168 (by decide) (fun c => absurd c (show ¬ ((0 : Int) ≠ 0) by decide)) (fun _ => ?_)
                          refine lv_aload_n hx hb dX11_fresh_171 rfl (lv_at hl 2 rfl) ?_
                          refine gX11_14 S hK hT ha kf_X11_45 dX11_fresh_172 (fun _ _ => ?_)
                          refine lv_iload hx hb dX11_fresh_175 (lv_at hl 1 rfl) ?_
                          refine al_0 S hK hT hk9999e ar_38 (by decide) (by rw [(t102 : Int32.toInt x102 = 199 * l4_51.toInt + l5_87.toInt + 99)]; exact (z_X11_fresh_41 l3_51.toInt l4_51.toInt l5_87.toInt (aI (G.2.1 (F a 10)) (10 * l4_51.toInt + 0)) (sF (aI (G.2.1 (F a 10)) (10 * l4_51.toInt + 0))) (sL (aI (G.2.1 (F a 10)) (10 * l4_51.toInt + 0))) I51_2 c55 z79a I87_0 c95)) dX11_fresh_177 (fun x177 hv177 o177 => ?_)
                          have hv177 : x177.toInt = (aI (G43.2.1 (F a 14)) (199 * l4_51.toInt + l5_87.toInt + 99)) := hv177.trans (by rw [(t102 : Int32.toInt x102 = 199 * l4_51.toInt + l5_87.toInt + 99)])
                          refine lv_aload_n hx hb dX11_fresh_178 rfl (lv_at hl 2 rfl) ?_
                          refine gX11_13 S hK hT ha kf_X11_42 dX11_fresh_179 (fun _ _ => ?_)
                          refine lv_iload hx hb dX11_fresh_182 (lv_at hl 1 rfl) ?_
                          refine al_0 S hK hT hk9999d ar_38 (by decide) (by rw [(t102 : Int32.toInt x102 = 199 * l4_51.toInt + l5_87.toInt + 99)]; exact (z_X11_fresh_41 l3_51.toInt l4_51.toInt l5_87.toInt (aI (G.2.1 (F a 10)) (10 * l4_51.toInt + 0)) (sF (aI (G.2.1 (F a 10)) (10 * l4_51.toInt + 0))) (sL (aI (G.2.1 (F a 10)) (10 * l4_51.toInt + 0))) I51_2 c55 z79a I87_0 c95)) dX11_fresh_184 (fun x184 hv184 o184 => ?_)
                          have hv184 : x184.toInt = (aI (G26.2.1 (F a 13)) (199 * l4_51.toInt + l5_87.toInt + 99)) := hv184.trans (by rw [(t102 : Int32.toInt x102 = 199 * l4_51.toInt + l5_87.toInt + 99), ((hF43.2.1 _ (xn1 (xne_j hj9999d hj9999e (by first | decide | omega)) xn0)) : G43.2.1 (F a 13) = G26.2.1 (F a 13))])
                          refine xi_ceq (tgt := 192) hx hb (hv177 : Int32.toInt x177 = (aI (G43.2.1 (F a 14)) (199 * l4_51.toInt + l5_87.toInt + 99))) (hv184 : Int32.toInt x184 = (aI (G26.2.1 (F a 13)) (199 * l4_51.toInt + l5_87.toInt + 99))) dX11_fresh_185 (by decide) (fun c185 => ?_) (fun c185 => ?_)
                          · refine lv_iconst (v := 0) hx hb dX11_fresh_192 (by decide) ?_
                            refine xi_iadd hx hb (rfl : Int32.toInt l3_87 = l3_87.toInt) ((by decide) : Int32.toInt 0 = (0 : Int)) dX11_fresh_193 (fun x193 t193 => ?_)
                            refine lv_istore_n (lv' := [(3, .int x193), (7, .int 0), (6, .int x102), (0, .ref a), (2, .int p1), (4, .int l4_51), (5, .int l5_87)]) hx hb dX11_fresh_194 rfl hl (by decide) rfl (fun ls hl => ?_)
                            refine xi_iinc (n := 1) (lv' := fun z9 => [(5, .int z9), (3, .int x193), (7, .int 0), (6, .int x102), (0, .ref a), (2, .int p1), (4, .int l4_51)]) (k := 6) hx hb (rfl : Int32.toInt l5_87 = l5_87.toInt) (by decide) dX11_fresh_195 hl rfl (by decide) (fun _ => rfl) (fun x195 ls t195 hl => ?_)
                            have e195 : x195.toInt = (l5_87.toInt + 1) := (z_X11_fresh_45 l5_87.toInt x195.toInt (aI (G.2.1 (F a 10)) (10 * l4_51.toInt + 0)) (sF (aI (G.2.1 (F a 10)) (10 * l4_51.toInt + 0))) (sL (aI (G.2.1 (F a 10)) (10 * l4_51.toInt + 0))) z79a c95 t195 (xr l5_87))
                            have hl : lv_has ls 8 [(5, .int x195), (3, .int x193), (7, .int 0), (6, .int x102), (0, .ref a), (2, .int p1), (4, .int l4_51)] := hl
                            refine lv_goto (tgt := 87) hx hb dX11_fresh_198 (by decide) ?_
                            exact ih87 x193 x195 _ _ _ (by rw [(e195 : Int32.toInt x195 = (l5_87.toInt + 1))] <;> exact (z_X11_fresh_46 l5_87.toInt (sF (aI (G.2.1 (F a 10)) (10 * l4_51.toInt + 0))) (sL (aI (G.2.1 (F a 10)) (10 * l4_51.toInt + 0))) I87_0 c95)) (by rw [(e195 : Int32.toInt x195 = (l5_87.toInt + 1))] <;> exact (z_X11_fresh_47 l3_87.toInt p1.toInt x193.toInt (aI (G26.2.1 (F a 13)) (199 * l4_51.toInt + l5_87.toInt + 99)) (aI (G43.2.1 (F a 14)) (199 * l4_51.toInt + l5_87.toInt + 99)) (frA (G.2.1 (F a 10)) (mw (G.2.1 (F a 1)) 0) (mw (G.2.1 (F a 2)) 0) (mw (G.2.1 (F a 3)) (360 * p0.toInt)) p1.toInt (l4_51.toInt)) (frI (G.2.1 (F a 10)) (mw (G.2.1 (F a 1)) 0) (mw (G.2.1 (F a 2)) 0) (mw (G.2.1 (F a 3)) (360 * p0.toInt)) p1.toInt (l4_51.toInt) (l5_87.toInt)) (smS (frI (G.2.1 (F a 10)) (mw (G.2.1 (F a 1)) 0) (mw (G.2.1 (F a 2)) 0) (mw (G.2.1 (F a 3)) (360 * p0.toInt)) p1.toInt (l4_51.toInt)) (sF (aI (G.2.1 (F a 10)) (10 * l4_51.toInt + 0))) (l5_87.toInt + 1)) (smS (frI (G.2.1 (F a 10)) (mw (G.2.1 (F a 1)) 0) (mw (G.2.1 (F a 2)) 0) (mw (G.2.1 (F a 3)) (360 * p0.toInt)) p1.toInt (l4_51.toInt)) (sF (aI (G.2.1 (F a 10)) (10 * l4_51.toInt + 0))) (l5_87.toInt)) (stt (mw (G.2.1 (F a 1)) 0) (aI (G.2.1 (F a 10)) (10 * l4_51.toInt + 0)) (aI (G.2.1 (F a 10)) (10 * l4_51.toInt + 1)) (aI (G.2.1 (F a 10)) (10 * l4_51.toInt + 2)) (aI (G.2.1 (F a 10)) (10 * l4_51.toInt + 3)) (l5_87.toInt)) (stt (mw (G.2.1 (F a 2)) 0) (aI (G.2.1 (F a 10)) (10 * l4_51.toInt + 0)) (aI (G.2.1 (F a 10)) (10 * l4_51.toInt + 1)) (aI (G.2.1 (F a 10)) (10 * l4_51.toInt + 2)) (aI (G.2.1 (F a 10)) (10 * l4_51.toInt + 3)) (l5_87.toInt)) (stt (mw (G.2.1 (F a 3)) (360 * p0.toInt)) (aI (G.2.1 (F a 10)) (10 * l4_51.toInt + 0)) (aI (G.2.1 (F a 10)) (10 * l4_51.toInt + 1)) (aI (G.2.1 (F a 10)) (10 * l4_51.toInt + 2)) (aI (G.2.1 (F a 10)) (10 * l4_51.toInt + 3)) (l5_87.toInt)) I87_1 z98 (z98a).2 z98c z98d c133 c185 t193 (xr l3_87))) (by rw [(e195 : Int32.toInt x195 = (l5_87.toInt + 1))] <;> exact (z_X11_fresh_48 l3_87.toInt l4_51.toInt l5_87.toInt x193.toInt (sF (aI (G.2.1 (F a 10)) (10 * l4_51.toInt + 0))) I87_2 t193 (xr l3_87))) (by rw [(e195 : Int32.toInt x195 = (l5_87.toInt + 1))] <;> exact (z_X11_fresh_49 l5_87.toInt N87 hm87)) hT hS (lv_sub hl [4, 5, 1, 6, 0] rfl)
                          · refine lv_iconst (v := 1) hx hb dX11_fresh_188 (by decide) ?_
                            refine lv_goto (tgt := 193) hx hb dX11_fresh_189 (by decide) ?_
                            refine xi_iadd hx hb (rfl : Int32.toInt l3_87 = l3_87.toInt) ((by decide) : Int32.toInt 1 = (1 : Int)) dX11_fresh_193 (fun x193 t193 => ?_)
                            refine lv_istore_n (lv' := [(3, .int x193), (7, .int 0), (6, .int x102), (0, .ref a), (2, .int p1), (4, .int l4_51), (5, .int l5_87)]) hx hb dX11_fresh_194 rfl hl (by decide) rfl (fun ls hl => ?_)
                            refine xi_iinc (n := 1) (lv' := fun z9 => [(5, .int z9), (3, .int x193), (7, .int 0), (6, .int x102), (0, .ref a), (2, .int p1), (4, .int l4_51)]) (k := 6) hx hb (rfl : Int32.toInt l5_87 = l5_87.toInt) (by decide) dX11_fresh_195 hl rfl (by decide) (fun _ => rfl) (fun x195 ls t195 hl => ?_)
                            have e195 : x195.toInt = (l5_87.toInt + 1) := (z_X11_fresh_45 l5_87.toInt x195.toInt (aI (G.2.1 (F a 10)) (10 * l4_51.toInt + 0)) (sF (aI (G.2.1 (F a 10)) (10 * l4_51.toInt + 0))) (sL (aI (G.2.1 (F a 10)) (10 * l4_51.toInt + 0))) z79a c95 t195 (xr l5_87))
                            have hl : lv_has ls 8 [(5, .int x195), (3, .int x193), (7, .int 0), (6, .int x102), (0, .ref a), (2, .int p1), (4, .int l4_51)] := hl
                            refine lv_goto (tgt := 87) hx hb dX11_fresh_198 (by decide) ?_
                            exact ih87 x193 x195 _ _ _ (by rw [(e195 : Int32.toInt x195 = (l5_87.toInt + 1))] <;> exact (z_X11_fresh_46 l5_87.toInt (sF (aI (G.2.1 (F a 10)) (10 * l4_51.toInt + 0))) (sL (aI (G.2.1 (F a 10)) (10 * l4_51.toInt + 0))) I87_0 c95)) (by rw [(e195 : Int32.toInt x195 = (l5_87.toInt + 1))] <;> exact (z_X11_fresh_52 l3_87.toInt l4_51.toInt l5_87.toInt p1.toInt x193.toInt (aI (G.2.1 (F a 10)) (10 * l4_51.toInt + 0)) (aI (G26.2.1 (F a 11)) (199 * l4_51.toInt + l5_87.toInt + 99)) (aI (G26.2.1 (F a 13)) (199 * l4_51.toInt + l5_87.toInt + 99)) (aI (G43.2.1 (F a 14)) (199 * l4_51.toInt + l5_87.toInt + 99)) (frA (G.2.1 (F a 10)) (mw (G.2.1 (F a 1)) 0) (mw (G.2.1 (F a 2)) 0) (mw (G.2.1 (F a 3)) (360 * p0.toInt)) p1.toInt (l4_51.toInt)) (frI (G.2.1 (F a 10)) (mw (G.2.1 (F a 1)) 0) (mw (G.2.1 (F a 2)) 0) (mw (G.2.1 (F a 3)) (360 * p0.toInt)) p1.toInt (l4_51.toInt) (l5_87.toInt)) (sF (aI (G.2.1 (F a 10)) (10 * l4_51.toInt + 0))) (sL (aI (G.2.1 (F a 10)) (10 * l4_51.toInt + 0))) (smS (frI (G.2.1 (F a 10)) (mw (G.2.1 (F a 1)) 0) (mw (G.2.1 (F a 2)) 0) (mw (G.2.1 (F a 3)) (360 * p0.toInt)) p1.toInt (l4_51.toInt)) (sF (aI (G.2.1 (F a 10)) (10 * l4_51.toInt + 0))) (l5_87.toInt + 1)) (smS (frI (G.2.1 (F a 10)) (mw (G.2.1 (F a 1)) 0) (mw (G.2.1 (F a 2)) 0) (mw (G.2.1 (F a 3)) (360 * p0.toInt)) p1.toInt (l4_51.toInt)) (sF (aI (G.2.1 (F a 10)) (10 * l4_51.toInt + 0))) (l5_87.toInt)) (stt (mw (G.2.1 (F a 1)) 0) (aI (G.2.1 (F a 10)) (10 * l4_51.toInt + 0)) (aI (G.2.1 (F a 10)) (10 * l4_51.toInt + 1)) (aI (G.2.1 (F a 10)) (10 * l4_51.toInt + 2)) (aI (G.2.1 (F a 10)) (10 * l4_51.toInt + 3)) (l5_87.toInt)) (stt (mw (G.2.1 (F a 2)) 0) (aI (G.2.1 (F a 10)) (10 * l4_51.toInt + 0)) (aI (G.2.1 (F a 10)) (10 * l4_51.toInt + 1)) (aI (G.2.1 (F a 10)) (10 * l4_51.toInt + 2)) (aI (G.2.1 (F a 10)) (10 * l4_51.toInt + 3)) (l5_87.toInt)) (stt (mw (G.2.1 (F a 3)) (360 * p0.toInt)) (aI (G.2.1 (F a 10)) (10 * l4_51.toInt + 0)) (aI (G.2.1 (F a 10)) (10 * l4_51.toInt + 1)) (aI (G.2.1 (F a 10)) (10 * l4_51.toInt + 2)) (aI (G.2.1 (F a 10)) (10 * l4_51.toInt + 3)) (l5_87.toInt)) c55 z79a I87_1 I87_2 c95 z98 (z98a).2 z98b z98c z98d c121 c133 c185 t193)) (by rw [(e195 : Int32.toInt x195 = (l5_87.toInt + 1))] <;> exact (z_X11_fresh_53 l3_87.toInt l4_51.toInt l5_87.toInt x193.toInt (aI (G.2.1 (F a 10)) (10 * l4_51.toInt + 0)) (sF (aI (G.2.1 (F a 10)) (10 * l4_51.toInt + 0))) (sL (aI (G.2.1 (F a 10)) (10 * l4_51.toInt + 0))) c55 z79a I87_2 c95 t193)) (by rw [(e195 : Int32.toInt x195 = (l5_87.toInt + 1))] <;> exact (z_X11_fresh_49 l5_87.toInt N87 hm87)) hT hS (lv_sub hl [4, 5, 1, 6, 0] rfl)
                        · refine lv_iload hx hb dX11_fresh_136 (lv_at hl 0 rfl) ?_
                          refine xi_zeq (tgt := 162) hx hb ((by decide) : Int32.toInt 0 = (0 : Int)) dX11_fresh_138 (by decide) (fun _ => ?_) (fun c => absurd (show (0 : Int) = 0 by decide) c)
                          refine lv_iconst (v := 0) hx hb dX11_fresh_162 (by decide) ?_
                          refine lv_goto (tgt := 193) hx hb dX11_fresh_163 (by decide) ?_
                          refine xi_iadd hx hb (rfl : Int32.toInt l3_87 = l3_87.toInt) ((by decide) : Int32.toInt 0 = (0 : Int)) dX11_fresh_193 (fun x193 t193 => ?_)
                          refine lv_istore_n (lv' := [(3, .int x193), (7, .int 0), (6, .int x102), (0, .ref a), (2, .int p1), (4, .int l4_51), (5, .int l5_87)]) hx hb dX11_fresh_194 rfl hl (by decide) rfl (fun ls hl => ?_)
                          refine xi_iinc (n := 1) (lv' := fun z9 => [(5, .int z9), (3, .int x193), (7, .int 0), (6, .int x102), (0, .ref a), (2, .int p1), (4, .int l4_51)]) (k := 6) hx hb (rfl : Int32.toInt l5_87 = l5_87.toInt) (by decide) dX11_fresh_195 hl rfl (by decide) (fun _ => rfl) (fun x195 ls t195 hl => ?_)
                          have e195 : x195.toInt = (l5_87.toInt + 1) := (z_X11_fresh_45 l5_87.toInt x195.toInt (aI (G.2.1 (F a 10)) (10 * l4_51.toInt + 0)) (sF (aI (G.2.1 (F a 10)) (10 * l4_51.toInt + 0))) (sL (aI (G.2.1 (F a 10)) (10 * l4_51.toInt + 0))) z79a c95 t195 (xr l5_87))
                          have hl : lv_has ls 8 [(5, .int x195), (3, .int x193), (7, .int 0), (6, .int x102), (0, .ref a), (2, .int p1), (4, .int l4_51)] := hl
                          refine lv_goto (tgt := 87) hx hb dX11_fresh_198 (by decide) ?_
                          exact ih87 x193 x195 _ _ _ (by rw [(e195 : Int32.toInt x195 = (l5_87.toInt + 1))] <;> exact (z_X11_fresh_46 l5_87.toInt (sF (aI (G.2.1 (F a 10)) (10 * l4_51.toInt + 0))) (sL (aI (G.2.1 (F a 10)) (10 * l4_51.toInt + 0))) I87_0 c95)) (by rw [(e195 : Int32.toInt x195 = (l5_87.toInt + 1))] <;> exact (z_X11_fresh_57 l3_87.toInt p1.toInt x193.toInt (aI (G26.2.1 (F a 11)) (199 * l4_51.toInt + l5_87.toInt + 99)) (aI (G26.2.1 (F a 13)) (199 * l4_51.toInt + l5_87.toInt + 99)) (frA (G.2.1 (F a 10)) (mw (G.2.1 (F a 1)) 0) (mw (G.2.1 (F a 2)) 0) (mw (G.2.1 (F a 3)) (360 * p0.toInt)) p1.toInt (l4_51.toInt)) (frI (G.2.1 (F a 10)) (mw (G.2.1 (F a 1)) 0) (mw (G.2.1 (F a 2)) 0) (mw (G.2.1 (F a 3)) (360 * p0.toInt)) p1.toInt (l4_51.toInt) (l5_87.toInt)) (smS (frI (G.2.1 (F a 10)) (mw (G.2.1 (F a 1)) 0) (mw (G.2.1 (F a 2)) 0) (mw (G.2.1 (F a 3)) (360 * p0.toInt)) p1.toInt (l4_51.toInt)) (sF (aI (G.2.1 (F a 10)) (10 * l4_51.toInt + 0))) (l5_87.toInt + 1)) (smS (frI (G.2.1 (F a 10)) (mw (G.2.1 (F a 1)) 0) (mw (G.2.1 (F a 2)) 0) (mw (G.2.1 (F a 3)) (360 * p0.toInt)) p1.toInt (l4_51.toInt)) (sF (aI (G.2.1 (F a 10)) (10 * l4_51.toInt + 0))) (l5_87.toInt)) (stt (mw (G.2.1 (F a 1)) 0) (aI (G.2.1 (F a 10)) (10 * l4_51.toInt + 0)) (aI (G.2.1 (F a 10)) (10 * l4_51.toInt + 1)) (aI (G.2.1 (F a 10)) (10 * l4_51.toInt + 2)) (aI (G.2.1 (F a 10)) (10 * l4_51.toInt + 3)) (l5_87.toInt)) (stt (mw (G.2.1 (F a 2)) 0) (aI (G.2.1 (F a 10)) (10 * l4_51.toInt + 0)) (aI (G.2.1 (F a 10)) (10 * l4_51.toInt + 1)) (aI (G.2.1 (F a 10)) (10 * l4_51.toInt + 2)) (aI (G.2.1 (F a 10)) (10 * l4_51.toInt + 3)) (l5_87.toInt)) (stt (mw (G.2.1 (F a 3)) (360 * p0.toInt)) (aI (G.2.1 (F a 10)) (10 * l4_51.toInt + 0)) (aI (G.2.1 (F a 10)) (10 * l4_51.toInt + 1)) (aI (G.2.1 (F a 10)) (10 * l4_51.toInt + 2)) (aI (G.2.1 (F a 10)) (10 * l4_51.toInt + 3)) (l5_87.toInt)) I87_1 z98 (z98a).1 z98b z98c c121 c133 t193 (xr l3_87))) (by rw [(e195 : Int32.toInt x195 = (l5_87.toInt + 1))] <;> exact (z_X11_fresh_48 l3_87.toInt l4_51.toInt l5_87.toInt x193.toInt (sF (aI (G.2.1 (F a 10)) (10 * l4_51.toInt + 0))) I87_2 t193 (xr l3_87))) (by rw [(e195 : Int32.toInt x195 = (l5_87.toInt + 1))] <;> exact (z_X11_fresh_49 l5_87.toInt N87 hm87)) hT hS (lv_sub hl [4, 5, 1, 6, 0] rfl)
                      · refine lv_iconst (v := 1) hx hb dX11_fresh_124 (by decide) ?_
                        refine lv_goto (tgt := 129) hx hb dX11_fresh_125 (by decide) ?_
                        refine lv_istore (lv' := [(7, .int 1), (6, .int x102), (0, .ref a), (2, .int p1), (3, .int l3_87), (4, .int l4_51), (5, .int l5_87)]) hx hb dX11_fresh_129 hl (by decide) rfl (fun ls hl => ?_)
                        refine lv_iload_n hx hb dX11_fresh_131 rfl (lv_at hl 4 rfl) ?_
                        refine lv_iload_n hx hb dX11_fresh_132 rfl (lv_at hl 3 rfl) ?_
                        refine xi_zne (tgt := 166) hx hb (rfl : Int32.toInt p1 = p1.toInt) dX11_fresh_133 (by decide) (fun c133 => ?_) (fun c133 => ?_)
                        · refine lv_iload hx hb dX11_fresh_166 (lv_at hl 0 rfl) ?_
                          refine xi_zne (tgt := 192) hx hb ((by decide) : Int32.toInt 1 = (1 : Int)) dX11_fresh_168 (by decide) (fun _ => ?_) (fun c => absurd (show (1 : Int) ≠ 0 by decide) c)
                          refine lv_iconst (v := 0) hx hb dX11_fresh_192 (by decide) ?_
                          refine xi_iadd hx hb (rfl : Int32.toInt l3_87 = l3_87.toInt) ((by decide) : Int32.toInt 0 = (0 : Int)) dX11_fresh_193 (fun x193 t193 => ?_)
                          refine lv_istore_n (lv' := [(3, .int x193), (7, .int 1), (6, .int x102), (0, .ref a), (2, .int p1), (4, .int l4_51), (5, .int l5_87)]) hx hb dX11_fresh_194 rfl hl (by decide) rfl (fun ls hl => ?_)
                          refine xi_iinc (n := 1) (lv' := fun z9 => [(5, .int z9), (3, .int x193), (7, .int 1), (6, .int x102), (0, .ref a), (2, .int p1), (4, .int l4_51)]) (k := 6) hx hb (rfl : Int32.toInt l5_87 = l5_87.toInt) (by decide) dX11_fresh_195 hl rfl (by decide) (fun _ => rfl) (fun x195 ls t195 hl => ?_)
                          have e195 : x195.toInt = (l5_87.toInt + 1) := (z_X11_fresh_45 l5_87.toInt x195.toInt (aI (G.2.1 (F a 10)) (10 * l4_51.toInt + 0)) (sF (aI (G.2.1 (F a 10)) (10 * l4_51.toInt + 0))) (sL (aI (G.2.1 (F a 10)) (10 * l4_51.toInt + 0))) z79a c95 t195 (xr l5_87))
                          have hl : lv_has ls 8 [(5, .int x195), (3, .int x193), (7, .int 1), (6, .int x102), (0, .ref a), (2, .int p1), (4, .int l4_51)] := hl
                          refine lv_goto (tgt := 87) hx hb dX11_fresh_198 (by decide) ?_
                          exact ih87 x193 x195 _ _ _ (by rw [(e195 : Int32.toInt x195 = (l5_87.toInt + 1))] <;> exact (z_X11_fresh_46 l5_87.toInt (sF (aI (G.2.1 (F a 10)) (10 * l4_51.toInt + 0))) (sL (aI (G.2.1 (F a 10)) (10 * l4_51.toInt + 0))) I87_0 c95)) (by rw [(e195 : Int32.toInt x195 = (l5_87.toInt + 1))] <;> exact (z_X11_fresh_62 l3_87.toInt p1.toInt x193.toInt (aI (G26.2.1 (F a 11)) (199 * l4_51.toInt + l5_87.toInt + 99)) (aI (G26.2.1 (F a 13)) (199 * l4_51.toInt + l5_87.toInt + 99)) (frA (G.2.1 (F a 10)) (mw (G.2.1 (F a 1)) 0) (mw (G.2.1 (F a 2)) 0) (mw (G.2.1 (F a 3)) (360 * p0.toInt)) p1.toInt (l4_51.toInt)) (frI (G.2.1 (F a 10)) (mw (G.2.1 (F a 1)) 0) (mw (G.2.1 (F a 2)) 0) (mw (G.2.1 (F a 3)) (360 * p0.toInt)) p1.toInt (l4_51.toInt) (l5_87.toInt)) (smS (frI (G.2.1 (F a 10)) (mw (G.2.1 (F a 1)) 0) (mw (G.2.1 (F a 2)) 0) (mw (G.2.1 (F a 3)) (360 * p0.toInt)) p1.toInt (l4_51.toInt)) (sF (aI (G.2.1 (F a 10)) (10 * l4_51.toInt + 0))) (l5_87.toInt + 1)) (smS (frI (G.2.1 (F a 10)) (mw (G.2.1 (F a 1)) 0) (mw (G.2.1 (F a 2)) 0) (mw (G.2.1 (F a 3)) (360 * p0.toInt)) p1.toInt (l4_51.toInt)) (sF (aI (G.2.1 (F a 10)) (10 * l4_51.toInt + 0))) (l5_87.toInt)) (stt (mw (G.2.1 (F a 1)) 0) (aI (G.2.1 (F a 10)) (10 * l4_51.toInt + 0)) (aI (G.2.1 (F a 10)) (10 * l4_51.toInt + 1)) (aI (G.2.1 (F a 10)) (10 * l4_51.toInt + 2)) (aI (G.2.1 (F a 10)) (10 * l4_51.toInt + 3)) (l5_87.toInt)) (stt (mw (G.2.1 (F a 2)) 0) (aI (G.2.1 (F a 10)) (10 * l4_51.toInt + 0)) (aI (G.2.1 (F a 10)) (10 * l4_51.toInt + 1)) (aI (G.2.1 (F a 10)) (10 * l4_51.toInt + 2)) (aI (G.2.1 (F a 10)) (10 * l4_51.toInt + 3)) (l5_87.toInt)) (stt (mw (G.2.1 (F a 3)) (360 * p0.toInt)) (aI (G.2.1 (F a 10)) (10 * l4_51.toInt + 0)) (aI (G.2.1 (F a 10)) (10 * l4_51.toInt + 1)) (aI (G.2.1 (F a 10)) (10 * l4_51.toInt + 2)) (aI (G.2.1 (F a 10)) (10 * l4_51.toInt + 3)) (l5_87.toInt)) I87_1 z98 (z98a).2 z98b z98c c121 c133 t193 (xr l3_87))) (by rw [(e195 : Int32.toInt x195 = (l5_87.toInt + 1))] <;> exact (z_X11_fresh_48 l3_87.toInt l4_51.toInt l5_87.toInt x193.toInt (sF (aI (G.2.1 (F a 10)) (10 * l4_51.toInt + 0))) I87_2 t193 (xr l3_87))) (by rw [(e195 : Int32.toInt x195 = (l5_87.toInt + 1))] <;> exact (z_X11_fresh_49 l5_87.toInt N87 hm87)) hT hS (lv_sub hl [4, 5, 1, 6, 0] rfl)
                        · refine lv_iload hx hb dX11_fresh_136 (lv_at hl 0 rfl) ?_
                          refine xi_zeq (tgt := 162) hx hb ((by decide) : Int32.toInt 1 = (1 : Int)) dX11_fresh_138 (by decide) (fun c => absurd c (show ¬ ((1 : Int) = 0) by decide)) (fun _ => ?_)
                          refine lv_aload_n hx hb dX11_fresh_141 rfl (lv_at hl 2 rfl) ?_
                          refine gX11_11 S hK hT ha kf_X11_36 dX11_fresh_142 (fun _ _ => ?_)
                          refine lv_iload hx hb dX11_fresh_145 (lv_at hl 1 rfl) ?_
                          refine al_0 S hK hT hk9999c ar_38 (by decide) (by rw [(t102 : Int32.toInt x102 = 199 * l4_51.toInt + l5_87.toInt + 99)]; exact (z_X11_fresh_41 l3_51.toInt l4_51.toInt l5_87.toInt (aI (G.2.1 (F a 10)) (10 * l4_51.toInt + 0)) (sF (aI (G.2.1 (F a 10)) (10 * l4_51.toInt + 0))) (sL (aI (G.2.1 (F a 10)) (10 * l4_51.toInt + 0))) I51_2 c55 z79a I87_0 c95)) dX11_fresh_147 (fun x147 hv147 o147 => ?_)
                          have hv147 : x147.toInt = (aI (G26.2.1 (F a 11)) (199 * l4_51.toInt + l5_87.toInt + 99)) := hv147.trans (by rw [(t102 : Int32.toInt x102 = 199 * l4_51.toInt + l5_87.toInt + 99), ((hF43.2.1 _ (xn1 (xne_j hj9999c hj9999e (by first | decide | omega)) xn0)) : G43.2.1 (F a 11) = G26.2.1 (F a 11))])
                          refine lv_aload_n hx hb dX11_fresh_148 rfl (lv_at hl 2 rfl) ?_
                          refine gX11_14 S hK hT ha kf_X11_45 dX11_fresh_149 (fun _ _ => ?_)
                          refine lv_iload hx hb dX11_fresh_152 (lv_at hl 1 rfl) ?_
                          refine al_0 S hK hT hk9999e ar_38 (by decide) (by rw [(t102 : Int32.toInt x102 = 199 * l4_51.toInt + l5_87.toInt + 99)]; exact (z_X11_fresh_41 l3_51.toInt l4_51.toInt l5_87.toInt (aI (G.2.1 (F a 10)) (10 * l4_51.toInt + 0)) (sF (aI (G.2.1 (F a 10)) (10 * l4_51.toInt + 0))) (sL (aI (G.2.1 (F a 10)) (10 * l4_51.toInt + 0))) I51_2 c55 z79a I87_0 c95)) dX11_fresh_154 (fun x154 hv154 o154 => ?_)
                          have hv154 : x154.toInt = (aI (G43.2.1 (F a 14)) (199 * l4_51.toInt + l5_87.toInt + 99)) := hv154.trans (by rw [(t102 : Int32.toInt x102 = 199 * l4_51.toInt + l5_87.toInt + 99)])
                          refine xi_ceq (tgt := 162) hx hb (hv147 : Int32.toInt x147 = (aI (G26.2.1 (F a 11)) (199 * l4_51.toInt + l5_87.toInt + 99))) (hv154 : Int32.toInt x154 = (aI (G43.2.1 (F a 14)) (199 * l4_51.toInt + l5_87.toInt + 99))) dX11_fresh_155 (by decide) (fun c155 => ?_) (fun c155 => ?_)
                          · refine lv_iconst (v := 0) hx hb dX11_fresh_162 (by decide) ?_
                            refine lv_goto (tgt := 193) hx hb dX11_fresh_163 (by decide) ?_
                            refine xi_iadd hx hb (rfl : Int32.toInt l3_87 = l3_87.toInt) ((by decide) : Int32.toInt 0 = (0 : Int)) dX11_fresh_193 (fun x193 t193 => ?_)
                            refine lv_istore_n (lv' := [(3, .int x193), (7, .int 1), (6, .int x102), (0, .ref a), (2, .int p1), (4, .int l4_51), (5, .int l5_87)]) hx hb dX11_fresh_194 rfl hl (by decide) rfl (fun ls hl => ?_)
                            refine xi_iinc (n := 1) (lv' := fun z9 => [(5, .int z9), (3, .int x193), (7, .int 1), (6, .int x102), (0, .ref a), (2, .int p1), (4, .int l4_51)]) (k := 6) hx hb (rfl : Int32.toInt l5_87 = l5_87.toInt) (by decide) dX11_fresh_195 hl rfl (by decide) (fun _ => rfl) (fun x195 ls t195 hl => ?_)
                            have e195 : x195.toInt = (l5_87.toInt + 1) := (z_X11_fresh_45 l5_87.toInt x195.toInt (aI (G.2.1 (F a 10)) (10 * l4_51.toInt + 0)) (sF (aI (G.2.1 (F a 10)) (10 * l4_51.toInt + 0))) (sL (aI (G.2.1 (F a 10)) (10 * l4_51.toInt + 0))) z79a c95 t195 (xr l5_87))
                            have hl : lv_has ls 8 [(5, .int x195), (3, .int x193), (7, .int 1), (6, .int x102), (0, .ref a), (2, .int p1), (4, .int l4_51)] := hl
                            refine lv_goto (tgt := 87) hx hb dX11_fresh_198 (by decide) ?_
                            exact ih87 x193 x195 _ _ _ (by rw [(e195 : Int32.toInt x195 = (l5_87.toInt + 1))] <;> exact (z_X11_fresh_46 l5_87.toInt (sF (aI (G.2.1 (F a 10)) (10 * l4_51.toInt + 0))) (sL (aI (G.2.1 (F a 10)) (10 * l4_51.toInt + 0))) I87_0 c95)) (by rw [(e195 : Int32.toInt x195 = (l5_87.toInt + 1))] <;> exact (z_X11_fresh_69 l3_87.toInt p1.toInt x193.toInt (aI (G26.2.1 (F a 11)) (199 * l4_51.toInt + l5_87.toInt + 99)) (aI (G43.2.1 (F a 14)) (199 * l4_51.toInt + l5_87.toInt + 99)) (frA (G.2.1 (F a 10)) (mw (G.2.1 (F a 1)) 0) (mw (G.2.1 (F a 2)) 0) (mw (G.2.1 (F a 3)) (360 * p0.toInt)) p1.toInt (l4_51.toInt)) (frI (G.2.1 (F a 10)) (mw (G.2.1 (F a 1)) 0) (mw (G.2.1 (F a 2)) 0) (mw (G.2.1 (F a 3)) (360 * p0.toInt)) p1.toInt (l4_51.toInt) (l5_87.toInt)) (smS (frI (G.2.1 (F a 10)) (mw (G.2.1 (F a 1)) 0) (mw (G.2.1 (F a 2)) 0) (mw (G.2.1 (F a 3)) (360 * p0.toInt)) p1.toInt (l4_51.toInt)) (sF (aI (G.2.1 (F a 10)) (10 * l4_51.toInt + 0))) (l5_87.toInt + 1)) (smS (frI (G.2.1 (F a 10)) (mw (G.2.1 (F a 1)) 0) (mw (G.2.1 (F a 2)) 0) (mw (G.2.1 (F a 3)) (360 * p0.toInt)) p1.toInt (l4_51.toInt)) (sF (aI (G.2.1 (F a 10)) (10 * l4_51.toInt + 0))) (l5_87.toInt)) (stt (mw (G.2.1 (F a 1)) 0) (aI (G.2.1 (F a 10)) (10 * l4_51.toInt + 0)) (aI (G.2.1 (F a 10)) (10 * l4_51.toInt + 1)) (aI (G.2.1 (F a 10)) (10 * l4_51.toInt + 2)) (aI (G.2.1 (F a 10)) (10 * l4_51.toInt + 3)) (l5_87.toInt)) (stt (mw (G.2.1 (F a 2)) 0) (aI (G.2.1 (F a 10)) (10 * l4_51.toInt + 0)) (aI (G.2.1 (F a 10)) (10 * l4_51.toInt + 1)) (aI (G.2.1 (F a 10)) (10 * l4_51.toInt + 2)) (aI (G.2.1 (F a 10)) (10 * l4_51.toInt + 3)) (l5_87.toInt)) (stt (mw (G.2.1 (F a 3)) (360 * p0.toInt)) (aI (G.2.1 (F a 10)) (10 * l4_51.toInt + 0)) (aI (G.2.1 (F a 10)) (10 * l4_51.toInt + 1)) (aI (G.2.1 (F a 10)) (10 * l4_51.toInt + 2)) (aI (G.2.1 (F a 10)) (10 * l4_51.toInt + 3)) (l5_87.toInt)) I87_1 z98 (z98a).1 z98b z98d c133 c155 t193 (xr l3_87))) (by rw [(e195 : Int32.toInt x195 = (l5_87.toInt + 1))] <;> exact (z_X11_fresh_48 l3_87.toInt l4_51.toInt l5_87.toInt x193.toInt (sF (aI (G.2.1 (F a 10)) (10 * l4_51.toInt + 0))) I87_2 t193 (xr l3_87))) (by rw [(e195 : Int32.toInt x195 = (l5_87.toInt + 1))] <;> exact (z_X11_fresh_49 l5_87.toInt N87 hm87)) hT hS (lv_sub hl [4, 5, 1, 6, 0] rfl)
                          · refine lv_iconst (v := 1) hx hb dX11_fresh_158 (by decide) ?_
                            refine lv_goto (tgt := 193) hx hb dX11_fresh_159 (by decide) ?_
                            refine xi_iadd hx hb (rfl : Int32.toInt l3_87 = l3_87.toInt) ((by decide) : Int32.toInt 1 = (1 : Int)) dX11_fresh_193 (fun x193 t193 => ?_)
                            refine lv_istore_n (lv' := [(3, .int x193), (7, .int 1), (6, .int x102), (0, .ref a), (2, .int p1), (4, .int l4_51), (5, .int l5_87)]) hx hb dX11_fresh_194 rfl hl (by decide) rfl (fun ls hl => ?_)
                            refine xi_iinc (n := 1) (lv' := fun z9 => [(5, .int z9), (3, .int x193), (7, .int 1), (6, .int x102), (0, .ref a), (2, .int p1), (4, .int l4_51)]) (k := 6) hx hb (rfl : Int32.toInt l5_87 = l5_87.toInt) (by decide) dX11_fresh_195 hl rfl (by decide) (fun _ => rfl) (fun x195 ls t195 hl => ?_)
                            have e195 : x195.toInt = (l5_87.toInt + 1) := (z_X11_fresh_45 l5_87.toInt x195.toInt (aI (G.2.1 (F a 10)) (10 * l4_51.toInt + 0)) (sF (aI (G.2.1 (F a 10)) (10 * l4_51.toInt + 0))) (sL (aI (G.2.1 (F a 10)) (10 * l4_51.toInt + 0))) z79a c95 t195 (xr l5_87))
                            have hl : lv_has ls 8 [(5, .int x195), (3, .int x193), (7, .int 1), (6, .int x102), (0, .ref a), (2, .int p1), (4, .int l4_51)] := hl
                            refine lv_goto (tgt := 87) hx hb dX11_fresh_198 (by decide) ?_
                            exact ih87 x193 x195 _ _ _ (by rw [(e195 : Int32.toInt x195 = (l5_87.toInt + 1))] <;> exact (z_X11_fresh_46 l5_87.toInt (sF (aI (G.2.1 (F a 10)) (10 * l4_51.toInt + 0))) (sL (aI (G.2.1 (F a 10)) (10 * l4_51.toInt + 0))) I87_0 c95)) (by rw [(e195 : Int32.toInt x195 = (l5_87.toInt + 1))] <;> exact (z_X11_fresh_74 l3_87.toInt l4_51.toInt l5_87.toInt p1.toInt x193.toInt (aI (G.2.1 (F a 10)) (10 * l4_51.toInt + 0)) (aI (G26.2.1 (F a 11)) (199 * l4_51.toInt + l5_87.toInt + 99)) (aI (G26.2.1 (F a 13)) (199 * l4_51.toInt + l5_87.toInt + 99)) (aI (G43.2.1 (F a 14)) (199 * l4_51.toInt + l5_87.toInt + 99)) (frA (G.2.1 (F a 10)) (mw (G.2.1 (F a 1)) 0) (mw (G.2.1 (F a 2)) 0) (mw (G.2.1 (F a 3)) (360 * p0.toInt)) p1.toInt (l4_51.toInt)) (frI (G.2.1 (F a 10)) (mw (G.2.1 (F a 1)) 0) (mw (G.2.1 (F a 2)) 0) (mw (G.2.1 (F a 3)) (360 * p0.toInt)) p1.toInt (l4_51.toInt) (l5_87.toInt)) (sF (aI (G.2.1 (F a 10)) (10 * l4_51.toInt + 0))) (sL (aI (G.2.1 (F a 10)) (10 * l4_51.toInt + 0))) (smS (frI (G.2.1 (F a 10)) (mw (G.2.1 (F a 1)) 0) (mw (G.2.1 (F a 2)) 0) (mw (G.2.1 (F a 3)) (360 * p0.toInt)) p1.toInt (l4_51.toInt)) (sF (aI (G.2.1 (F a 10)) (10 * l4_51.toInt + 0))) (l5_87.toInt + 1)) (smS (frI (G.2.1 (F a 10)) (mw (G.2.1 (F a 1)) 0) (mw (G.2.1 (F a 2)) 0) (mw (G.2.1 (F a 3)) (360 * p0.toInt)) p1.toInt (l4_51.toInt)) (sF (aI (G.2.1 (F a 10)) (10 * l4_51.toInt + 0))) (l5_87.toInt)) (stt (mw (G.2.1 (F a 1)) 0) (aI (G.2.1 (F a 10)) (10 * l4_51.toInt + 0)) (aI (G.2.1 (F a 10)) (10 * l4_51.toInt + 1)) (aI (G.2.1 (F a 10)) (10 * l4_51.toInt + 2)) (aI (G.2.1 (F a 10)) (10 * l4_51.toInt + 3)) (l5_87.toInt)) (stt (mw (G.2.1 (F a 2)) 0) (aI (G.2.1 (F a 10)) (10 * l4_51.toInt + 0)) (aI (G.2.1 (F a 10)) (10 * l4_51.toInt + 1)) (aI (G.2.1 (F a 10)) (10 * l4_51.toInt + 2)) (aI (G.2.1 (F a 10)) (10 * l4_51.toInt + 3)) (l5_87.toInt)) (stt (mw (G.2.1 (F a 3)) (360 * p0.toInt)) (aI (G.2.1 (F a 10)) (10 * l4_51.toInt + 0)) (aI (G.2.1 (F a 10)) (10 * l4_51.toInt + 1)) (aI (G.2.1 (F a 10)) (10 * l4_51.toInt + 2)) (aI (G.2.1 (F a 10)) (10 * l4_51.toInt + 3)) (l5_87.toInt)) c55 z79a I87_1 I87_2 c95 z98 (z98a).1 z98b z98c z98d c121 c133 c155 t193)) (by rw [(e195 : Int32.toInt x195 = (l5_87.toInt + 1))] <;> exact (z_X11_fresh_53 l3_87.toInt l4_51.toInt l5_87.toInt x193.toInt (aI (G.2.1 (F a 10)) (10 * l4_51.toInt + 0)) (sF (aI (G.2.1 (F a 10)) (10 * l4_51.toInt + 0))) (sL (aI (G.2.1 (F a 10)) (10 * l4_51.toInt + 0))) c55 z79a I87_2 c95 t193)) (by rw [(e195 : Int32.toInt x195 = (l5_87.toInt + 1))] <;> exact (z_X11_fresh_49 l5_87.toInt N87 hm87)) hT hS (lv_sub hl [4, 5, 1, 6, 0] rfl)
                exact L87 4294967297 l3_51 x82 _ _ _ (by rw [(t82 : Int32.toInt x82 = (sF (aI (G.2.1 (F a 10)) (10 * l4_51.toInt + 0))))] <;> exact (z_X11_fresh_77 (aI (G.2.1 (F a 10)) (10 * l4_51.toInt + 0)) (sF (aI (G.2.1 (F a 10)) (10 * l4_51.toInt + 0))) (sL (aI (G.2.1 (F a 10)) (10 * l4_51.toInt + 0))) z79a)) (by rw [(t82 : Int32.toInt x82 = (sF (aI (G.2.1 (F a 10)) (10 * l4_51.toInt + 0))))] <;> exact (z_X11_fresh_78 l3_51.toInt (frA (G.2.1 (F a 10)) (mw (G.2.1 (F a 1)) 0) (mw (G.2.1 (F a 2)) 0) (mw (G.2.1 (F a 3)) (360 * p0.toInt)) p1.toInt (l4_51.toInt)) (smS (frI (G.2.1 (F a 10)) (mw (G.2.1 (F a 1)) 0) (mw (G.2.1 (F a 2)) 0) (mw (G.2.1 (F a 3)) (360 * p0.toInt)) p1.toInt (l4_51.toInt)) (sF (aI (G.2.1 (F a 10)) (10 * l4_51.toInt + 0))) (sF (aI (G.2.1 (F a 10)) (10 * l4_51.toInt + 0)))) I51_1 z79b)) (by rw [(t82 : Int32.toInt x82 = (sF (aI (G.2.1 (F a 10)) (10 * l4_51.toInt + 0))))] <;> exact (z_X11_fresh_79 l3_51.toInt l4_51.toInt (sF (aI (G.2.1 (F a 10)) (10 * l4_51.toInt + 0))) I51_2)) (by rw [(t82 : Int32.toInt x82 = (sF (aI (G.2.1 (F a 10)) (10 * l4_51.toInt + 0))))] <;> exact (z_X11_fresh_80 (aI (G.2.1 (F a 10)) (10 * l4_51.toInt + 0)) (sF (aI (G.2.1 (F a 10)) (10 * l4_51.toInt + 0))) (sL (aI (G.2.1 (F a 10)) (10 * l4_51.toInt + 0))) z79a)) hT hS (lv_sub hl [1, 2, 3, 4, 0] rfl)
      exact L51 4294967297 0 0 _ _ _ (by decide) (z_X11_fresh_81 (frA (G.2.1 (F a 10)) (mw (G.2.1 (F a 1)) 0) (mw (G.2.1 (F a 2)) 0) (mw (G.2.1 (F a 3)) (360 * p0.toInt)) p1.toInt 0) z48) (by decide) (by decide) hT hS (lv_sub hl [2, 4, 1, 0] rfl)
    · refine lv_iconst (v := (-1)) hx hb dX11_fresh_23 (by decide) ?_
      exact x_ri hx hb hr hlk hQ (Nat.le_of_ble_eq_true rfl) (Nat.le_of_ble_eq_true rfl) hS dX11_fresh_24 G2 ⟨_, rfl, (by rw [hG2]; exact XFr.dput XFr.rf (List.mem_of_getElem? (i := 0) rfl)), (by rw [((by decide) : Int32.toInt (-1) = (-1 : Int))] <;> exact (v_X11_fresh_24_8 (K := K) (F := F) a G p0 x7 x17 p1 ha m0 t7 c10 t17 c20))⟩ hT
theorem v_X11_wouldCut_8_1 {F : Nat → Nat → Nat} (a : Nat) (G2 : XG) (G : XG)
    (hM : RM (G.2.1 (F a 1)) (0))
    (c_G2_F_a_1 : G2.2.1 (F a 1) = G.2.1 (F a 1)) :
    RM (G2.2.1 (F a 1)) 0 := by simp only [c_G2_F_a_1]; assumption
theorem v_X11_wouldCut_27_2 {F : Nat → Nat → Nat} (G2 : XG) (a : Nat) (G : XG)
    (c_G2_F_a_1 : G2.2.1 (F a 1) = G.2.1 (F a 1)) :
    mw (G2.2.1 (F a 1)) 0 = mw (G.2.1 (F a 1)) 0 := by
  rw [c_G2_F_a_1]
theorem v_X11_wouldCut_27_3 {F : Nat → Nat → Nat} (G : XG) (a : Nat) (G2 : XG)
    (hM : RM (G.2.1 (F a 1)) (0))
    (c_G2_F_a_1 : G2.2.1 (F a 1) = G.2.1 (F a 1)) :
    RM (G2.2.1 (F a 1)) 0 := by
  rw [c_G2_F_a_1]; exact hM
theorem v_X11_wouldCut_27_4 {K : Nat → Nat} {F : Nat → Nat → Nat} (a : Nat) (G : XG) (p0 : Int32) (p1 : Int32) (x8 : Int32) (p2 : Int32)
    (ha : K a = 13)
    (z5 : ¬ (0 ≤ p0.toInt ∧ p0.toInt < 3 ∧ 0 ≤ p1.toInt ∧ p1.toInt < 30) → (cel (mw (G.2.1 (F a 1)) 0) (p0.toInt) (p1.toInt) 0) = -2000)
    (t8 : (x8.toInt = 1 ∧ (cel (mw (G.2.1 (F a 1)) 0) (p0.toInt) (p1.toInt) 0) ≠ -2000) ∨ (x8.toInt = 0 ∧ (cel (mw (G.2.1 (F a 1)) 0) (p0.toInt) (p1.toInt) 0) = -2000))
    (c11 : x8.toInt = 0) :
    (¬ (cel (mw (G.2.1 (F a 1)) 0) p0.toInt p1.toInt 0 ≠ -2000 ∧ 0 ≤ p2.toInt ∧ p2.toInt ≤ 2) ∧ (-1 : Int) = -1) ∨ ((cel (mw (G.2.1 (F a 1)) 0) p0.toInt p1.toInt 0 ≠ -2000 ∧ 0 ≤ p2.toInt ∧ p2.toInt ≤ 2) ∧ ((p2.toInt = 0 ∧ ∃ f0 f1 : Nat → Int32, (RM f0 0 ∧ mw f0 0 = (mw (G.2.1 (F a 1)) 0)) ∧ (RM f1 0 ∧ mw f1 0 = cfin (refA (G.2.1 (F a 10))) (refT (G.2.1 (F a 10))) (refC (G.2.1 (F a 10))) ([(p0.toInt, p1.toInt, 0, 0)], rfil (mw (G.2.1 (F a 1)) 0) p0.toInt p1.toInt (-2000) 3)) ∧ (-1 : Int) = rmT f0 360 - rmT f1 360) ∨ (p2.toInt = 1 ∧ ∃ f0 f1 : Nat → Int32, (RM f0 0 ∧ mw f0 0 = (mw (G.2.1 (F a 1)) 0)) ∧ (RM f1 0 ∧ mw f1 0 = cfin (refA (G.2.1 (F a 10))) (refT (G.2.1 (F a 10))) (refC (G.2.1 (F a 10))) ([(p0.toInt, p1.toInt, 0, 0)], rfil (mw (G.2.1 (F a 1)) 0) p0.toInt p1.toInt (-2000) 3)) ∧ (-1 : Int) = clT f0 f1 360) ∨ (p2.toInt = 2 ∧ AnsM ((G.1 a 6).toInt) (-1 : Int) (G.2.1 (F a 10)) (mw (G.2.1 (F a 1)) 0) (cfin (refA (G.2.1 (F a 10))) (refT (G.2.1 (F a 10))) (refC (G.2.1 (F a 10))) ([(p0.toInt, p1.toInt, 0, 0)], rfil (mw (G.2.1 (F a 1)) 0) p0.toInt p1.toInt (-2000) 3))))) := by
  exact Or.inl ⟨by omega, rfl⟩
theorem v_X11_wouldCut_29_5 {F : Nat → Nat → Nat} (a : Nat) (G2 : XG) (G : XG)
    (hR : RV (G.2.1 (F a 10)))
    (c_G2_F_a_10 : G2.2.1 (F a 10) = G.2.1 (F a 10)) :
    RV (G2.2.1 (F a 10)) := by simp only [c_G2_F_a_10]; assumption
theorem v_X11_wouldCut_29_6 {F : Nat → Nat → Nat} (a : Nat) (G2 : XG) (G : XG)
    (hM : RM (G.2.1 (F a 1)) (0))
    (c_G2_F_a_1 : G2.2.1 (F a 1) = G.2.1 (F a 1)) :
    RM (G2.2.1 (F a 1)) (0) := by simp only [c_G2_F_a_1]; assumption
theorem v_X11_wouldCut_35_7 {F : Nat → Nat → Nat} (a : Nat) (G : XG) (G29 : XG)
    (hR : RV (G.2.1 (F a 10)))
    (c_G29_F_a_10 : G29.2.1 (F a 10) = G.2.1 (F a 10)) :
    RV (G29.2.1 (F a 10)) := by simp only [c_G29_F_a_10]; assumption
theorem v_X11_wouldCut_35_8 {F : Nat → Nat → Nat} (a : Nat) (G : XG) (G29 : XG)
    (hM : RM (G.2.1 (F a 1)) (0))
    (oq29a : RM (G29.2.1 (F a 4)) 0)
    (c_G29_F_a_1 : G29.2.1 (F a 1) = G.2.1 (F a 1)) :
    RM (G29.2.1 (F a 1)) (0) := by simp only [c_G29_F_a_1]; assumption
theorem v_X11_wouldCut_141_9 {F : Nat → Nat → Nat} (a : Nat) (G : XG) (G35 : XG)
    (hR : RV (G.2.1 (F a 10)))
    (c_G35_F_a_10 : G35.2.1 (F a 10) = G.2.1 (F a 10)) :
    RV (G35.2.1 (F a 10)) := by simp only [c_G35_F_a_10]; assumption
theorem v_X11_wouldCut_141_10 {F : Nat → Nat → Nat} (G35 : XG) (a : Nat)
    (oq35a : RM (G35.2.1 (F a 1)) 0) :
    RM (G35.2.1 (F a 1)) (0) := by
  exact oq35a
theorem v_X11_wouldCut_141_11 {F : Nat → Nat → Nat} (G29 : XG) (a : Nat) (G35 : XG)
    (oq29a : RM (G29.2.1 (F a 4)) 0)
    (c_G35_F_a_4 : G35.2.1 (F a 4) = G29.2.1 (F a 4)) :
    RM (G35.2.1 (F a 4)) 0 := by simp only [c_G35_F_a_4]; assumption
theorem v_X11_wouldCut_141_12 {F : Nat → Nat → Nat} (G : XG) (a : Nat) (G29 : XG) (G35 : XG)
    (oq29b : LSt (G.2.1 (F a 10)) (G29.2.1 (F a 12)) (mw (G.2.1 (F a 1)) 0) 12)
    (c_G35_F_a_10 : G35.2.1 (F a 10) = G.2.1 (F a 10))
    (c_G35_F_a_12 : G35.2.1 (F a 12) = G29.2.1 (F a 12)) :
    LSt (G35.2.1 (F a 10)) (G35.2.1 (F a 12)) (mw (G.2.1 (F a 1)) 0) 12 := by
  rw [c_G35_F_a_10, c_G35_F_a_12]; exact oq29b
theorem v_X11_wouldCut_167_13 {F : Nat → Nat → Nat} (G29 : XG) (a : Nat) (G : XG) (G141 : XG)
    (oq29 : mw (G29.2.1 (F a 4)) 0 = mw (G.2.1 (F a 1)) 0)
    (oq141a : mw (G141.2.1 (F a 1)) 0 = mw (G29.2.1 (F a 4)) 0) :
    mw (G141.2.1 (F a 1)) 0 = mw (G.2.1 (F a 1)) 0 := by
  exact oq141a.trans oq29
theorem v_X11_wouldCut_167_14 {F : Nat → Nat → Nat} (G141 : XG) (a : Nat)
    (oq141b : RM (G141.2.1 (F a 1)) 0) :
    RM (G141.2.1 (F a 1)) 0 := by
  exact oq141b
theorem v_X11_wouldCut_167_15 {K : Nat → Nat} {F : Nat → Nat → Nat} (a : Nat) (G : XG) (G29 : XG) (G35 : XG) (p0 : Int32) (p1 : Int32) (x141 : Int32) (x8 : Int32) (x20 : Int32) (p2 : Int32) (l6_47 : Int32) (l4_47 : Int32) (l5_47 : Int32) (N47 : Nat)
    (ha : K a = 13)
    (oq29 : mw (G29.2.1 (F a 4)) 0 = mw (G.2.1 (F a 1)) 0)
    (oq29a : RM (G29.2.1 (F a 4)) 0)
    (oq35 : mw (G35.2.1 (F a 1)) 0 = cfin (refA (G.2.1 (F a 10))) (refT (G.2.1 (F a 10))) (refC (G.2.1 (F a 10))) ([(p0.toInt, p1.toInt, 0, 0)], rfil (mw (G.2.1 (F a 1)) 0) p0.toInt p1.toInt (-2000) 3))
    (oq35a : RM (G35.2.1 (F a 1)) 0)
    (oq141 : AnsM ((G.1 a 6).toInt) x141.toInt (G.2.1 (F a 10)) (mw (G.2.1 (F a 1)) 0) (mw (G35.2.1 (F a 1)) 0))
    (z5 : ¬ (0 ≤ p0.toInt ∧ p0.toInt < 3 ∧ 0 ≤ p1.toInt ∧ p1.toInt < 30) → (cel (mw (G.2.1 (F a 1)) 0) (p0.toInt) (p1.toInt) 0) = -2000)
    (t8 : (x8.toInt = 1 ∧ (cel (mw (G.2.1 (F a 1)) 0) (p0.toInt) (p1.toInt) 0) ≠ -2000) ∨ (x8.toInt = 0 ∧ (cel (mw (G.2.1 (F a 1)) 0) (p0.toInt) (p1.toInt) 0) = -2000))
    (c11 : ¬ (x8.toInt = 0))
    (t20 : (x20.toInt = 1 ∧ (0 : Int) ≤ p2.toInt ∧ p2.toInt ≤ (2 : Int)) ∨ (x20.toInt = 0 ∧ (p2.toInt < (0 : Int) ∨ (2 : Int) < p2.toInt)))
    (c23 : x20.toInt ≠ 0)
    (z44 : (rmT (G29.2.1 (F a 4)) 0) = 0)
    (z44a : (rmT (G35.2.1 (F a 1)) 0) = 0)
    (z44b : (clT (G29.2.1 (F a 4)) (G35.2.1 (F a 1)) 0) = 0)
    (I47_0 : 0 ≤ l6_47.toInt ∧ l6_47.toInt ≤ 360 ∧ l6_47.toInt % 4 = 0)
    (I47_1 : l4_47.toInt = (rmT (G29.2.1 (F a 4)) (l6_47.toInt)) - (rmT (G35.2.1 (F a 1)) (l6_47.toInt)))
    (I47_2 : -l6_47.toInt ≤ 4 * l4_47.toInt ∧ 4 * l4_47.toInt ≤ l6_47.toInt)
    (I47_3 : l5_47.toInt = (clT (G29.2.1 (F a 4)) (G35.2.1 (F a 1)) (l6_47.toInt)))
    (I47_4 : 0 ≤ l5_47.toInt ∧ 4 * l5_47.toInt ≤ 3 * l6_47.toInt)
    (hm47 : 1000 - l6_47.toInt < (((N47) + 1 : Nat) : Int))
    (c52 : (360 : Int) ≤ l6_47.toInt)
    (z140 : l6_47.toInt = 360 → (rmT (G29.2.1 (F a 4)) (l6_47.toInt)) = (rmT (G29.2.1 (F a 4)) 360))
    (z140a : l6_47.toInt = 360 → (rmT (G35.2.1 (F a 1)) (l6_47.toInt)) = (rmT (G35.2.1 (F a 1)) 360))
    (z140b : l6_47.toInt = 360 → (clT (G29.2.1 (F a 4)) (G35.2.1 (F a 1)) (l6_47.toInt)) = (clT (G29.2.1 (F a 4)) (G35.2.1 (F a 1)) 360))
    (c147 : p2.toInt ≠ 0)
    (c157 : p2.toInt ≠ (1 : Int)) :
    (¬ (cel (mw (G.2.1 (F a 1)) 0) p0.toInt p1.toInt 0 ≠ -2000 ∧ 0 ≤ p2.toInt ∧ p2.toInt ≤ 2) ∧ x141.toInt = -1) ∨ ((cel (mw (G.2.1 (F a 1)) 0) p0.toInt p1.toInt 0 ≠ -2000 ∧ 0 ≤ p2.toInt ∧ p2.toInt ≤ 2) ∧ ((p2.toInt = 0 ∧ ∃ f0 f1 : Nat → Int32, (RM f0 0 ∧ mw f0 0 = (mw (G.2.1 (F a 1)) 0)) ∧ (RM f1 0 ∧ mw f1 0 = cfin (refA (G.2.1 (F a 10))) (refT (G.2.1 (F a 10))) (refC (G.2.1 (F a 10))) ([(p0.toInt, p1.toInt, 0, 0)], rfil (mw (G.2.1 (F a 1)) 0) p0.toInt p1.toInt (-2000) 3)) ∧ x141.toInt = rmT f0 360 - rmT f1 360) ∨ (p2.toInt = 1 ∧ ∃ f0 f1 : Nat → Int32, (RM f0 0 ∧ mw f0 0 = (mw (G.2.1 (F a 1)) 0)) ∧ (RM f1 0 ∧ mw f1 0 = cfin (refA (G.2.1 (F a 10))) (refT (G.2.1 (F a 10))) (refC (G.2.1 (F a 10))) ([(p0.toInt, p1.toInt, 0, 0)], rfil (mw (G.2.1 (F a 1)) 0) p0.toInt p1.toInt (-2000) 3)) ∧ x141.toInt = clT f0 f1 360) ∨ (p2.toInt = 2 ∧ AnsM ((G.1 a 6).toInt) x141.toInt (G.2.1 (F a 10)) (mw (G.2.1 (F a 1)) 0) (cfin (refA (G.2.1 (F a 10))) (refT (G.2.1 (F a 10))) (refC (G.2.1 (F a 10))) ([(p0.toInt, p1.toInt, 0, 0)], rfil (mw (G.2.1 (F a 1)) 0) p0.toInt p1.toInt (-2000) 3))))) := by
  first
    | (exfalso; omega)
    | exact Or.inr ⟨by omega, Or.inl ⟨by omega, _, _, ⟨oq29a, oq29⟩, ⟨oq35a, oq35⟩, by omega⟩⟩
    | exact Or.inr ⟨by omega, Or.inr (Or.inl ⟨by omega, _, _, ⟨oq29a, oq29⟩, ⟨oq35a, oq35⟩, by omega⟩)⟩
    | (rw [oq35] at oq141
       exact Or.inr ⟨by omega, Or.inr (Or.inr ⟨by omega, oq141⟩)⟩)
theorem v_X11_wouldCut_167_16 {F : Nat → Nat → Nat} (G29 : XG) (a : Nat) (G : XG) (G141 : XG)
    (oq29 : mw (G29.2.1 (F a 4)) 0 = mw (G.2.1 (F a 1)) 0)
    (oq141a : mw (G141.2.1 (F a 1)) 0 = mw (G29.2.1 (F a 4)) 0) :
    mw (G141.2.1 (F a 1)) 0 = mw (G.2.1 (F a 1)) 0 := by
  exact oq141a.trans oq29
theorem v_X11_wouldCut_167_17 {F : Nat → Nat → Nat} (G141 : XG) (a : Nat)
    (oq141b : RM (G141.2.1 (F a 1)) 0) :
    RM (G141.2.1 (F a 1)) 0 := by
  exact oq141b
theorem v_X11_wouldCut_167_18 {K : Nat → Nat} {F : Nat → Nat → Nat} (a : Nat) (G : XG) (G29 : XG) (G35 : XG) (p0 : Int32) (p1 : Int32) (x141 : Int32) (x8 : Int32) (x20 : Int32) (p2 : Int32) (l6_47 : Int32) (l4_47 : Int32) (l5_47 : Int32) (N47 : Nat)
    (ha : K a = 13)
    (oq29 : mw (G29.2.1 (F a 4)) 0 = mw (G.2.1 (F a 1)) 0)
    (oq29a : RM (G29.2.1 (F a 4)) 0)
    (oq35 : mw (G35.2.1 (F a 1)) 0 = cfin (refA (G.2.1 (F a 10))) (refT (G.2.1 (F a 10))) (refC (G.2.1 (F a 10))) ([(p0.toInt, p1.toInt, 0, 0)], rfil (mw (G.2.1 (F a 1)) 0) p0.toInt p1.toInt (-2000) 3))
    (oq35a : RM (G35.2.1 (F a 1)) 0)
    (oq141 : AnsM ((G.1 a 6).toInt) x141.toInt (G.2.1 (F a 10)) (mw (G.2.1 (F a 1)) 0) (mw (G35.2.1 (F a 1)) 0))
    (z5 : ¬ (0 ≤ p0.toInt ∧ p0.toInt < 3 ∧ 0 ≤ p1.toInt ∧ p1.toInt < 30) → (cel (mw (G.2.1 (F a 1)) 0) (p0.toInt) (p1.toInt) 0) = -2000)
    (t8 : (x8.toInt = 1 ∧ (cel (mw (G.2.1 (F a 1)) 0) (p0.toInt) (p1.toInt) 0) ≠ -2000) ∨ (x8.toInt = 0 ∧ (cel (mw (G.2.1 (F a 1)) 0) (p0.toInt) (p1.toInt) 0) = -2000))
    (c11 : ¬ (x8.toInt = 0))
    (t20 : (x20.toInt = 1 ∧ (0 : Int) ≤ p2.toInt ∧ p2.toInt ≤ (2 : Int)) ∨ (x20.toInt = 0 ∧ (p2.toInt < (0 : Int) ∨ (2 : Int) < p2.toInt)))
    (c23 : x20.toInt ≠ 0)
    (z44 : (rmT (G29.2.1 (F a 4)) 0) = 0)
    (z44a : (rmT (G35.2.1 (F a 1)) 0) = 0)
    (z44b : (clT (G29.2.1 (F a 4)) (G35.2.1 (F a 1)) 0) = 0)
    (I47_0 : 0 ≤ l6_47.toInt ∧ l6_47.toInt ≤ 360 ∧ l6_47.toInt % 4 = 0)
    (I47_1 : l4_47.toInt = (rmT (G29.2.1 (F a 4)) (l6_47.toInt)) - (rmT (G35.2.1 (F a 1)) (l6_47.toInt)))
    (I47_2 : -l6_47.toInt ≤ 4 * l4_47.toInt ∧ 4 * l4_47.toInt ≤ l6_47.toInt)
    (I47_3 : l5_47.toInt = (clT (G29.2.1 (F a 4)) (G35.2.1 (F a 1)) (l6_47.toInt)))
    (I47_4 : 0 ≤ l5_47.toInt ∧ 4 * l5_47.toInt ≤ 3 * l6_47.toInt)
    (hm47 : 1000 - l6_47.toInt < (((N47) + 1 : Nat) : Int))
    (c52 : (360 : Int) ≤ l6_47.toInt)
    (z140 : l6_47.toInt = 360 → (rmT (G29.2.1 (F a 4)) (l6_47.toInt)) = (rmT (G29.2.1 (F a 4)) 360))
    (z140a : l6_47.toInt = 360 → (rmT (G35.2.1 (F a 1)) (l6_47.toInt)) = (rmT (G35.2.1 (F a 1)) 360))
    (z140b : l6_47.toInt = 360 → (clT (G29.2.1 (F a 4)) (G35.2.1 (F a 1)) (l6_47.toInt)) = (clT (G29.2.1 (F a 4)) (G35.2.1 (F a 1)) 360))
    (c147 : p2.toInt ≠ 0)
    (c157 : ¬ (p2.toInt ≠ (1 : Int))) :
    (¬ (cel (mw (G.2.1 (F a 1)) 0) p0.toInt p1.toInt 0 ≠ -2000 ∧ 0 ≤ p2.toInt ∧ p2.toInt ≤ 2) ∧ l5_47.toInt = -1) ∨ ((cel (mw (G.2.1 (F a 1)) 0) p0.toInt p1.toInt 0 ≠ -2000 ∧ 0 ≤ p2.toInt ∧ p2.toInt ≤ 2) ∧ ((p2.toInt = 0 ∧ ∃ f0 f1 : Nat → Int32, (RM f0 0 ∧ mw f0 0 = (mw (G.2.1 (F a 1)) 0)) ∧ (RM f1 0 ∧ mw f1 0 = cfin (refA (G.2.1 (F a 10))) (refT (G.2.1 (F a 10))) (refC (G.2.1 (F a 10))) ([(p0.toInt, p1.toInt, 0, 0)], rfil (mw (G.2.1 (F a 1)) 0) p0.toInt p1.toInt (-2000) 3)) ∧ l5_47.toInt = rmT f0 360 - rmT f1 360) ∨ (p2.toInt = 1 ∧ ∃ f0 f1 : Nat → Int32, (RM f0 0 ∧ mw f0 0 = (mw (G.2.1 (F a 1)) 0)) ∧ (RM f1 0 ∧ mw f1 0 = cfin (refA (G.2.1 (F a 10))) (refT (G.2.1 (F a 10))) (refC (G.2.1 (F a 10))) ([(p0.toInt, p1.toInt, 0, 0)], rfil (mw (G.2.1 (F a 1)) 0) p0.toInt p1.toInt (-2000) 3)) ∧ l5_47.toInt = clT f0 f1 360) ∨ (p2.toInt = 2 ∧ AnsM ((G.1 a 6).toInt) l5_47.toInt (G.2.1 (F a 10)) (mw (G.2.1 (F a 1)) 0) (cfin (refA (G.2.1 (F a 10))) (refT (G.2.1 (F a 10))) (refC (G.2.1 (F a 10))) ([(p0.toInt, p1.toInt, 0, 0)], rfil (mw (G.2.1 (F a 1)) 0) p0.toInt p1.toInt (-2000) 3))))) := by
  first
    | (exfalso; omega)
    | exact Or.inr ⟨by omega, Or.inl ⟨by omega, _, _, ⟨oq29a, oq29⟩, ⟨oq35a, oq35⟩, by omega⟩⟩
    | exact Or.inr ⟨by omega, Or.inr (Or.inl ⟨by omega, _, _, ⟨oq29a, oq29⟩, ⟨oq35a, oq35⟩, by omega⟩)⟩
    | (rw [oq35] at oq141
       exact Or.inr ⟨by omega, Or.inr (Or.inr ⟨by omega, oq141⟩)⟩)
theorem v_X11_wouldCut_167_19 {F : Nat → Nat → Nat} (G29 : XG) (a : Nat) (G : XG) (G141 : XG)
    (oq29 : mw (G29.2.1 (F a 4)) 0 = mw (G.2.1 (F a 1)) 0)
    (oq141a : mw (G141.2.1 (F a 1)) 0 = mw (G29.2.1 (F a 4)) 0) :
    mw (G141.2.1 (F a 1)) 0 = mw (G.2.1 (F a 1)) 0 := by
  exact oq141a.trans oq29
theorem v_X11_wouldCut_167_20 {F : Nat → Nat → Nat} (G141 : XG) (a : Nat)
    (oq141b : RM (G141.2.1 (F a 1)) 0) :
    RM (G141.2.1 (F a 1)) 0 := by
  exact oq141b
theorem v_X11_wouldCut_167_21 {K : Nat → Nat} {F : Nat → Nat → Nat} (a : Nat) (G : XG) (G29 : XG) (G35 : XG) (p0 : Int32) (p1 : Int32) (x141 : Int32) (x8 : Int32) (x20 : Int32) (p2 : Int32) (l6_47 : Int32) (l4_47 : Int32) (l5_47 : Int32) (N47 : Nat)
    (ha : K a = 13)
    (oq29 : mw (G29.2.1 (F a 4)) 0 = mw (G.2.1 (F a 1)) 0)
    (oq29a : RM (G29.2.1 (F a 4)) 0)
    (oq35 : mw (G35.2.1 (F a 1)) 0 = cfin (refA (G.2.1 (F a 10))) (refT (G.2.1 (F a 10))) (refC (G.2.1 (F a 10))) ([(p0.toInt, p1.toInt, 0, 0)], rfil (mw (G.2.1 (F a 1)) 0) p0.toInt p1.toInt (-2000) 3))
    (oq35a : RM (G35.2.1 (F a 1)) 0)
    (oq141 : AnsM ((G.1 a 6).toInt) x141.toInt (G.2.1 (F a 10)) (mw (G.2.1 (F a 1)) 0) (mw (G35.2.1 (F a 1)) 0))
    (z5 : ¬ (0 ≤ p0.toInt ∧ p0.toInt < 3 ∧ 0 ≤ p1.toInt ∧ p1.toInt < 30) → (cel (mw (G.2.1 (F a 1)) 0) (p0.toInt) (p1.toInt) 0) = -2000)
    (t8 : (x8.toInt = 1 ∧ (cel (mw (G.2.1 (F a 1)) 0) (p0.toInt) (p1.toInt) 0) ≠ -2000) ∨ (x8.toInt = 0 ∧ (cel (mw (G.2.1 (F a 1)) 0) (p0.toInt) (p1.toInt) 0) = -2000))
    (c11 : ¬ (x8.toInt = 0))
    (t20 : (x20.toInt = 1 ∧ (0 : Int) ≤ p2.toInt ∧ p2.toInt ≤ (2 : Int)) ∨ (x20.toInt = 0 ∧ (p2.toInt < (0 : Int) ∨ (2 : Int) < p2.toInt)))
    (c23 : x20.toInt ≠ 0)
    (z44 : (rmT (G29.2.1 (F a 4)) 0) = 0)
    (z44a : (rmT (G35.2.1 (F a 1)) 0) = 0)
    (z44b : (clT (G29.2.1 (F a 4)) (G35.2.1 (F a 1)) 0) = 0)
    (I47_0 : 0 ≤ l6_47.toInt ∧ l6_47.toInt ≤ 360 ∧ l6_47.toInt % 4 = 0)
    (I47_1 : l4_47.toInt = (rmT (G29.2.1 (F a 4)) (l6_47.toInt)) - (rmT (G35.2.1 (F a 1)) (l6_47.toInt)))
    (I47_2 : -l6_47.toInt ≤ 4 * l4_47.toInt ∧ 4 * l4_47.toInt ≤ l6_47.toInt)
    (I47_3 : l5_47.toInt = (clT (G29.2.1 (F a 4)) (G35.2.1 (F a 1)) (l6_47.toInt)))
    (I47_4 : 0 ≤ l5_47.toInt ∧ 4 * l5_47.toInt ≤ 3 * l6_47.toInt)
    (hm47 : 1000 - l6_47.toInt < (((N47) + 1 : Nat) : Int))
    (c52 : (360 : Int) ≤ l6_47.toInt)
    (z140 : l6_47.toInt = 360 → (rmT (G29.2.1 (F a 4)) (l6_47.toInt)) = (rmT (G29.2.1 (F a 4)) 360))
    (z140a : l6_47.toInt = 360 → (rmT (G35.2.1 (F a 1)) (l6_47.toInt)) = (rmT (G35.2.1 (F a 1)) 360))
    (z140b : l6_47.toInt = 360 → (clT (G29.2.1 (F a 4)) (G35.2.1 (F a 1)) (l6_47.toInt)) = (clT (G29.2.1 (F a 4)) (G35.2.1 (F a 1)) 360))
    (c147 : ¬ (p2.toInt ≠ 0)) :
    (¬ (cel (mw (G.2.1 (F a 1)) 0) p0.toInt p1.toInt 0 ≠ -2000 ∧ 0 ≤ p2.toInt ∧ p2.toInt ≤ 2) ∧ l4_47.toInt = -1) ∨ ((cel (mw (G.2.1 (F a 1)) 0) p0.toInt p1.toInt 0 ≠ -2000 ∧ 0 ≤ p2.toInt ∧ p2.toInt ≤ 2) ∧ ((p2.toInt = 0 ∧ ∃ f0 f1 : Nat → Int32, (RM f0 0 ∧ mw f0 0 = (mw (G.2.1 (F a 1)) 0)) ∧ (RM f1 0 ∧ mw f1 0 = cfin (refA (G.2.1 (F a 10))) (refT (G.2.1 (F a 10))) (refC (G.2.1 (F a 10))) ([(p0.toInt, p1.toInt, 0, 0)], rfil (mw (G.2.1 (F a 1)) 0) p0.toInt p1.toInt (-2000) 3)) ∧ l4_47.toInt = rmT f0 360 - rmT f1 360) ∨ (p2.toInt = 1 ∧ ∃ f0 f1 : Nat → Int32, (RM f0 0 ∧ mw f0 0 = (mw (G.2.1 (F a 1)) 0)) ∧ (RM f1 0 ∧ mw f1 0 = cfin (refA (G.2.1 (F a 10))) (refT (G.2.1 (F a 10))) (refC (G.2.1 (F a 10))) ([(p0.toInt, p1.toInt, 0, 0)], rfil (mw (G.2.1 (F a 1)) 0) p0.toInt p1.toInt (-2000) 3)) ∧ l4_47.toInt = clT f0 f1 360) ∨ (p2.toInt = 2 ∧ AnsM ((G.1 a 6).toInt) l4_47.toInt (G.2.1 (F a 10)) (mw (G.2.1 (F a 1)) 0) (cfin (refA (G.2.1 (F a 10))) (refT (G.2.1 (F a 10))) (refC (G.2.1 (F a 10))) ([(p0.toInt, p1.toInt, 0, 0)], rfil (mw (G.2.1 (F a 1)) 0) p0.toInt p1.toInt (-2000) 3))))) := by
  first
    | (exfalso; omega)
    | exact Or.inr ⟨by omega, Or.inl ⟨by omega, _, _, ⟨oq29a, oq29⟩, ⟨oq35a, oq35⟩, by omega⟩⟩
    | exact Or.inr ⟨by omega, Or.inr (Or.inl ⟨by omega, _, _, ⟨oq29a, oq29⟩, ⟨oq35a, oq35⟩, by omega⟩)⟩
    | (rw [oq35] at oq141
       exact Or.inr ⟨by omega, Or.inr (Or.inr ⟨by omega, oq141⟩)⟩)
theorem v_X11_wouldCut_27_22 {F : Nat → Nat → Nat} (G2 : XG) (a : Nat) (G : XG)
    (c_G2_F_a_1 : G2.2.1 (F a 1) = G.2.1 (F a 1)) :
    mw (G2.2.1 (F a 1)) 0 = mw (G.2.1 (F a 1)) 0 := by
  rw [c_G2_F_a_1]
theorem v_X11_wouldCut_27_23 {F : Nat → Nat → Nat} (G : XG) (a : Nat) (G2 : XG)
    (hM : RM (G.2.1 (F a 1)) (0))
    (c_G2_F_a_1 : G2.2.1 (F a 1) = G.2.1 (F a 1)) :
    RM (G2.2.1 (F a 1)) 0 := by
  rw [c_G2_F_a_1]; exact hM
theorem v_X11_wouldCut_27_24 {K : Nat → Nat} {F : Nat → Nat → Nat} (a : Nat) (G : XG) (p0 : Int32) (p1 : Int32) (x8 : Int32) (x20 : Int32) (p2 : Int32)
    (ha : K a = 13)
    (z5 : ¬ (0 ≤ p0.toInt ∧ p0.toInt < 3 ∧ 0 ≤ p1.toInt ∧ p1.toInt < 30) → (cel (mw (G.2.1 (F a 1)) 0) (p0.toInt) (p1.toInt) 0) = -2000)
    (t8 : (x8.toInt = 1 ∧ (cel (mw (G.2.1 (F a 1)) 0) (p0.toInt) (p1.toInt) 0) ≠ -2000) ∨ (x8.toInt = 0 ∧ (cel (mw (G.2.1 (F a 1)) 0) (p0.toInt) (p1.toInt) 0) = -2000))
    (c11 : ¬ (x8.toInt = 0))
    (t20 : (x20.toInt = 1 ∧ (0 : Int) ≤ p2.toInt ∧ p2.toInt ≤ (2 : Int)) ∨ (x20.toInt = 0 ∧ (p2.toInt < (0 : Int) ∨ (2 : Int) < p2.toInt)))
    (c23 : ¬ (x20.toInt ≠ 0)) :
    (¬ (cel (mw (G.2.1 (F a 1)) 0) p0.toInt p1.toInt 0 ≠ -2000 ∧ 0 ≤ p2.toInt ∧ p2.toInt ≤ 2) ∧ (-1 : Int) = -1) ∨ ((cel (mw (G.2.1 (F a 1)) 0) p0.toInt p1.toInt 0 ≠ -2000 ∧ 0 ≤ p2.toInt ∧ p2.toInt ≤ 2) ∧ ((p2.toInt = 0 ∧ ∃ f0 f1 : Nat → Int32, (RM f0 0 ∧ mw f0 0 = (mw (G.2.1 (F a 1)) 0)) ∧ (RM f1 0 ∧ mw f1 0 = cfin (refA (G.2.1 (F a 10))) (refT (G.2.1 (F a 10))) (refC (G.2.1 (F a 10))) ([(p0.toInt, p1.toInt, 0, 0)], rfil (mw (G.2.1 (F a 1)) 0) p0.toInt p1.toInt (-2000) 3)) ∧ (-1 : Int) = rmT f0 360 - rmT f1 360) ∨ (p2.toInt = 1 ∧ ∃ f0 f1 : Nat → Int32, (RM f0 0 ∧ mw f0 0 = (mw (G.2.1 (F a 1)) 0)) ∧ (RM f1 0 ∧ mw f1 0 = cfin (refA (G.2.1 (F a 10))) (refT (G.2.1 (F a 10))) (refC (G.2.1 (F a 10))) ([(p0.toInt, p1.toInt, 0, 0)], rfil (mw (G.2.1 (F a 1)) 0) p0.toInt p1.toInt (-2000) 3)) ∧ (-1 : Int) = clT f0 f1 360) ∨ (p2.toInt = 2 ∧ AnsM ((G.1 a 6).toInt) (-1 : Int) (G.2.1 (F a 10)) (mw (G.2.1 (F a 1)) 0) (cfin (refA (G.2.1 (F a 10))) (refT (G.2.1 (F a 10))) (refC (G.2.1 (F a 10))) ([(p0.toInt, p1.toInt, 0, 0)], rfil (mw (G.2.1 (F a 1)) 0) p0.toInt p1.toInt (-2000) 3))))) := by
  exact Or.inl ⟨by omega, rfl⟩
