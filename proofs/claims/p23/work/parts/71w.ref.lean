theorem z_X11_queue_1 (a0 : Int) (h0 : 0 ≤ a0 ∧ a0 ≤ 2388) : -2147483648 ≤ a0 ∧ a0 < 2147483648 := by omega
theorem z_X11_queue_2 (a0 : Int) (a1 : Int) (a2 : Int) (h0 : (a1 = 1 ∧ (0 : Int) ≤ a0 ∧ a0 ≤ (a2 - (1 : Int))) ∨ (a1 = 0 ∧ (a0 < (0 : Int) ∨ (a2 - (1 : Int)) < a0))) (h1 : ¬ (a1 = 0)) : 0 ≤ a0 ∧ a0 < a2 := by omega
theorem z_X11_queue_3 (a0 : Int) (a1 : Int) (a2 : Int) (h0 : 0 ≤ a2 ∧ a2 ≤ 2388) (h1 : (a1 = 1 ∧ (0 : Int) ≤ a0 ∧ a0 ≤ (a2 - (1 : Int))) ∨ (a1 = 0 ∧ (a0 < (0 : Int) ∨ (a2 - (1 : Int)) < a0))) (h2 : ¬ (a1 = 0)) : 0 ≤ a0 ∧ a0 < ((2400 : Nat) : Int) := by omega
theorem z_X11_queue_5 (a0 : Int) (a1 : Int) (a2 : Int) (a3 : Int) (h0 : 0 ≤ a0 ∧ a0 ≤ 11) (h1 : a2 ≤ a1 ∧ a1 ≤ a3) (h2 : a2 = 0 ∨ a2 = -99) (h3 : a3 = 29 ∨ a3 = 99) : 0 ≤ a0 ∧ a0 ≤ 11 ∧ -99 ≤ a1 ∧ a1 ≤ 99 := by omega
theorem z_X11_queue_6 (a0 : Int) : (a0 < 0 ∨ 4 < a0) ∨ (a0 = 0) ∨ (a0 = 1) ∨ (a0 = 2) ∨ (a0 = 3) ∨ (a0 = 4) := by omega
theorem z_X11_queue_9 (a0 : Int) (a1 : Int) (a2 : Int) (a3 : Int) (h0 : 0 ≤ a0 ∧ a0 ≤ 11) (h1 : a2 ≤ a1 ∧ a1 ≤ a3) (h2 : a2 = 0 ∨ a2 = -99) (h3 : a3 = 29 ∨ a3 = 99) : 0 ≤ 199 * a0 + a1 + 99 ∧ 199 * a0 + a1 + 99 < ((2388 : Nat) : Int) := by omega
abbrev rm_X11_queue : Room := { frames := 5, cells := 0, slots := 0, locals := 122 }
set_option maxHeartbeats 4000000 in
set_option maxRecDepth 100000 in
theorem c_X11_queue (l : Launch) (E : XE) (K : Nat → Nat) (F : Nat → Nat → Nat) (G : XG) (a : Nat) (p0 : Int32) (p1 : Int32) (ha : K a = 13) (hR : RV (G.2.1 (F a 10))) (hM : RM (G.2.1 (F a 1)) (0)) (hB : RM (G.2.1 (F a 2)) 0) : Met l yX11_queue (xw yX11_queue cX11_queue 4 (some .int)) rm_X11_queue (va_Pc [.ref a, .int p0, .int p1] (XP E K F G)) (XQ E (fun v (u : XG) => ∃ r : Int32, v = .int r ∧ XFr [(a, 0), (a, 16), (a, 19)] [F a 15, F a 17, F a 18, F a 11, F a 13] [] G u ∧ ((¬ (0 ≤ p0.toInt ∧ p0.toInt < (((if ((G.1 a 6).toInt) = 0 then [] else fuO (G.2.1 (F a 10)) (mw (G.2.1 (F a 1)) 0) (mw (G.2.1 (F a 2)) 0) 1).length : Nat) : Int)) ∧ ((u.1 a 0).toInt) = 1 ∧ r.toInt = 0) ∨ (∃ y : Int × Int, 0 ≤ p0.toInt ∧ (if ((G.1 a 6).toInt) = 0 then [] else fuO (G.2.1 (F a 10)) (mw (G.2.1 (F a 1)) 0) (mw (G.2.1 (F a 2)) 0) 1)[(p0.toInt).toNat]? = some y ∧ ((u.1 a 0).toInt) = 0 ∧ r.toInt = quM (G.2.1 (F a 10)) (mw (G.2.1 (F a 1)) 0) (mw (G.2.1 (F a 2)) 0) y p1.toInt)) ∧ (u.2.2.2 = G.2.2.2)) (fun u H => TW E K F u H)) 0 0 (xA E) := by
  refine x_enter (by decide) (Nat.le_of_ble_eq_true rfl) ?_
  intro p e s m args below meth c Q S hr hlk hnm hQ hP ls hl
  obtain ⟨hz, hK, hT⟩ := hP
  obtain ⟨hx, hb, -, -, -⟩ := id S
  obtain ⟨H, hT, hS, hgo⟩ : ∃ H : Heap, TW E K F G H ∧ va_S (xA E) s.heap H [] ∧ H = s.heap := ⟨_, hT, va_S.rf, rfl⟩
  rw [← hgo]
  have hl : lv_has ls 4 [(0, .ref a), (1, .int p0), (2, .int p1)] := hl
  obtain ⟨hk9999, hj9999⟩ := fkX11_15 hT ha
  obtain ⟨hk9999a, hj9999a⟩ := fkX11_17 hT ha
  obtain ⟨hk9999b, hj9999b⟩ := fkX11_18 hT ha
  obtain ⟨hk9999c, hj9999c⟩ := fkX11_11 hT ha
  obtain ⟨hk9999d, hj9999d⟩ := fkX11_13 hT ha
  obtain ⟨hk9999e, hj9999e⟩ := fkX11_10 hT ha
  obtain ⟨hk9999f, hj9999f⟩ := fkX11_1 hT ha
  obtain ⟨hk9999g, hj9999g⟩ := fkX11_2 hT ha
  refine lv_aload_n hx hb dX11_queue_0 rfl (lv_at hl 0 rfl) ?_
  refine x_cv0 (x_runV (b := a) (As := []) (rest := []) S (c_X11_findQueue l E K F G a ha (v_X11_queue_1_1 (F := F) a G hR) (v_X11_queue_1_2 (F := F) a G hM) (v_X11_queue_1_3 (F := F) a G hB)) mv_X11_findQueue km_X11_218 rfl rfl ⟨Nat.le_of_ble_eq_true rfl, Nat.le_of_ble_eq_true rfl⟩ (rc_13 hK hT ha) hK (fun _ => XP.blind) (fun U hU hW => XP.at hK hz hS hT hU hW) rfl hl.1 (Nat.le_of_ble_eq_true rfl) dX11_queue_1 ⟨Nat.le_of_ble_eq_true rfl, Nat.le_of_ble_eq_true rfl⟩) hS ?_
  rintro G1 H locs ⟨hF1, t1, oq1, oq1a, oq1b⟩ hT hS
  have t1 : 0 ≤ ((G1.1 a 19).toInt) ∧ ((G1.1 a 19).toInt) ≤ 2388 := t1
  have hvq : PV (G.2.1 (F a 10)) (pL G1 F a) := (v_X11_queue_4_4 (F := F) G1 a G oq1)
  refine lv_aload_n hx hb dX11_queue_4 rfl (lv_at hl 0 rfl) ?_
  refine lv_iload_n hx hb dX11_queue_5 rfl (lv_at hl 1 rfl) ?_
  refine lv_i2l (v := p0.toInt64) hx hb dX11_queue_6 rfl ?_
  refine lv_lconst (v := (0 : Int64)) hx hb dX11_queue_7 (by decide) ?_
  refine lv_aload_n hx hb dX11_queue_8 rfl (lv_at hl 0 rfl) ?_
  refine gX11_19 S hK hT ha kf_X11_203 dX11_queue_9 (v := (G1.1 a 19)) rfl (?_)
  refine lv_i2l (v := ((G1.1 a 19) : Int32).toInt64) hx hb dX11_queue_12 rfl ?_
  refine lv_lconst (v := (1 : Int64)) hx hb dX11_queue_13 (by decide) ?_
  refine lv_lsub hx hb dX11_queue_14 (lv_topl (fun y14 hy14 => ?_))
  have hy14 : y14.toInt = ((G1.1 a 19).toInt) - (1 : Int) := xl_sub (xl_i2l (rfl : Int32.toInt (G1.1 a 19) = ((G1.1 a 19).toInt))) (by decide) (z_X11_queue_1 ((G1.1 a 19).toInt) t1) (by decide) hy14
  refine x_clp (x_runS (As := [.long p0.toInt64, .long (0 : Int64), .long y14]) (rest := [.ref a]) S (c_X11_in l E K F G1 H p0.toInt64 p0.toInt (0 : Int64) (0 : Int) y14 (((G1.1 a 19).toInt) - (1 : Int)) (xl_i2l (rfl : Int32.toInt p0 = p0.toInt)) (by decide) hy14) ms_X11_in km_X11_139 rfl rfl ⟨Nat.le_of_ble_eq_true rfl, Nat.le_of_ble_eq_true rfl⟩ hK (fun _ => XPh.blind) (fun U hU hW => XPh.at hK hz hS hT hU hW) rfl hl.1 (Nat.le_of_ble_eq_true rfl) dX11_queue_15 ⟨Nat.le_of_ble_eq_true rfl, Nat.le_of_ble_eq_true rfl⟩) hS ?_
  rintro _ _ locs ⟨x15, rfl, b15, t15⟩ hS
  have t15 : (x15.toInt = 1 ∧ (0 : Int) ≤ p0.toInt ∧ p0.toInt ≤ (((G1.1 a 19).toInt) - (1 : Int))) ∨ (x15.toInt = 0 ∧ (p0.toInt < (0 : Int) ∨ (((G1.1 a 19).toInt) - (1 : Int)) < p0.toInt)) := t15
  refine xi_zeq (tgt := 25) hx hb (rfl : Int32.toInt x15 = x15.toInt) dX11_queue_18 (by decide) (fun c18 => ?_) (fun c18 => ?_)
  · refine lv_iconst (v := 1) hx hb dX11_queue_25 (by decide) ?_
    refine pX11_0 (v := 1) S hK hT hS ha kf_X11_134 dX11_queue_26 (fun H locs hT hS => ?_)
    obtain ⟨G26, hG26⟩ : ∃ GG : XG, GG = dput G1 a 0 1 := ⟨_, rfl⟩
    rw [← hG26] at hT
    refine lv_aload_n hx hb dX11_queue_29 rfl (lv_at hl 0 rfl) ?_
    refine gX11_0 S hK hT ha kf_X11_134 dX11_queue_30 (v := 1) (ld_at hG26) (?_)
    refine lv_iconst (v := 1) hx hb dX11_queue_33 (by decide) ?_
    refine xi_cne (tgt := 39) hx hb ((by decide) : Int32.toInt 1 = (1 : Int)) ((by decide) : Int32.toInt 1 = (1 : Int)) dX11_queue_34 (by decide) (fun c => absurd c (show ¬ ((1 : Int) ≠ (1 : Int)) by decide)) (fun _ => ?_)
    refine lv_iconst (v := 0) hx hb dX11_queue_37 (by decide) ?_
    exact x_ri hx hb hr hlk hQ (Nat.le_of_ble_eq_true rfl) (Nat.le_of_ble_eq_true rfl) hS dX11_queue_38 G26 ⟨_, rfl, (by rw [hG26]; exact XFr.dput (XFr.call XFr.rf hF1 (xm1 1 rfl (xm1 2 rfl xm0)) (xm1 0 rfl (xm1 1 rfl (xm1 2 rfl (xm1 3 rfl (xm1 4 rfl xm0))))) xm0) (List.mem_of_getElem? (i := 0) rfl)), (v_X11_queue_38_5 (K := K) (F := F) a G G1 G26 x15 p0 p1 ha oq1 oq1a oq1b t1 t15 c18 (ld_at hG26)), (v_X11_queue_38_6 a G G1 G26 hG26 oq1b)⟩ hT
  · refine lv_iconst (v := 0) hx hb dX11_queue_21 (by decide) ?_
    refine lv_goto (tgt := 26) hx hb dX11_queue_22 (by decide) ?_
    refine pX11_0 (v := 0) S hK hT hS ha kf_X11_134 dX11_queue_26 (fun H locs hT hS => ?_)
    obtain ⟨G26, hG26⟩ : ∃ GG : XG, GG = dput G1 a 0 0 := ⟨_, rfl⟩
    rw [← hG26] at hT
    refine lv_aload_n hx hb dX11_queue_29 rfl (lv_at hl 0 rfl) ?_
    refine gX11_0 S hK hT ha kf_X11_134 dX11_queue_30 (v := 0) (ld_at hG26) (?_)
    refine lv_iconst (v := 1) hx hb dX11_queue_33 (by decide) ?_
    refine xi_cne (tgt := 39) hx hb ((by decide) : Int32.toInt 0 = (0 : Int)) ((by decide) : Int32.toInt 1 = (1 : Int)) dX11_queue_34 (by decide) (fun _ => ?_) (fun c => absurd (show (0 : Int) ≠ (1 : Int) by decide) c)
    have z39 : (0 ≤ (aI (G1.2.1 (F a 17)) (p0.toInt)) ∧ (aI (G1.2.1 (F a 17)) (p0.toInt)) ≤ 11) ∧ (aI (G.2.1 (F a 10)) (10 * (aI (G1.2.1 (F a 17)) (p0.toInt)) + 0)) ≠ -1 ∧ ((sF (aI (G.2.1 (F a 10)) (10 * (aI (G1.2.1 (F a 17)) (p0.toInt)) + 0))) ≤ (aI (G1.2.1 (F a 18)) (p0.toInt)) ∧ (aI (G1.2.1 (F a 18)) (p0.toInt)) ≤ (sL (aI (G.2.1 (F a 10)) (10 * (aI (G1.2.1 (F a 17)) (p0.toInt)) + 0)))) := pv_at hvq (z_X11_queue_2 p0.toInt x15.toInt ((G1.1 a 19).toInt) t15 c18)
    have z39a : ((sF (aI (G.2.1 (F a 10)) (10 * (aI (G1.2.1 (F a 17)) (p0.toInt)) + 0))) = 0 ∨ (sF (aI (G.2.1 (F a 10)) (10 * (aI (G1.2.1 (F a 17)) (p0.toInt)) + 0))) = -99) ∧ ((sL (aI (G.2.1 (F a 10)) (10 * (aI (G1.2.1 (F a 17)) (p0.toInt)) + 0))) = 29 ∨ (sL (aI (G.2.1 (F a 10)) (10 * (aI (G1.2.1 (F a 17)) (p0.toInt)) + 0))) = 99) := sFLb _
    refine lv_aload_n hx hb dX11_queue_39 rfl (lv_at hl 0 rfl) ?_
    refine gX11_17 S hK hT ha kf_X11_51 dX11_queue_40 (fun _ _ => ?_)
    refine lv_iload_n hx hb dX11_queue_43 rfl (lv_at hl 1 rfl) ?_
    refine al_0 S hK hT hk9999a ar_43 (by decide) (z_X11_queue_3 p0.toInt x15.toInt ((G1.1 a 19).toInt) t1 t15 c18) dX11_queue_44 (fun x44 hv44 o44 => ?_)
    have hv44 : x44.toInt = (aI (G1.2.1 (F a 17)) (p0.toInt)) := hv44.trans (by rw [(rfl : Int32.toInt p0 = p0.toInt), ((ld_c hG26) : G26.2.1 (F a 17) = G1.2.1 (F a 17))])
    refine lv_aload_n hx hb dX11_queue_45 rfl (lv_at hl 0 rfl) ?_
    refine gX11_18 S hK hT ha kf_X11_54 dX11_queue_46 (fun _ _ => ?_)
    refine lv_iload_n hx hb dX11_queue_49 rfl (lv_at hl 1 rfl) ?_
    refine al_0 S hK hT hk9999b ar_44 (by decide) (z_X11_queue_3 p0.toInt x15.toInt ((G1.1 a 19).toInt) t1 t15 c18) dX11_queue_50 (fun x50 hv50 o50 => ?_)
    have hv50 : x50.toInt = (aI (G1.2.1 (F a 18)) (p0.toInt)) := hv50.trans (by rw [(rfl : Int32.toInt p0 = p0.toInt), ((ld_c hG26) : G26.2.1 (F a 18) = G1.2.1 (F a 18))])
    refine x_clp (x_runS (As := [.int x44, .int x50]) (rest := []) S (c_X11_placeOf l E K F G26 H x44 x50 (by rw [(hv44 : Int32.toInt x44 = (aI (G1.2.1 (F a 17)) (p0.toInt))), (hv50 : Int32.toInt x50 = (aI (G1.2.1 (F a 18)) (p0.toInt)))] <;> exact (z_X11_queue_5 (aI (G1.2.1 (F a 17)) (p0.toInt)) (aI (G1.2.1 (F a 18)) (p0.toInt)) (sF (aI (G.2.1 (F a 10)) (10 * (aI (G1.2.1 (F a 17)) (p0.toInt)) + 0))) (sL (aI (G.2.1 (F a 10)) (10 * (aI (G1.2.1 (F a 17)) (p0.toInt)) + 0))) (z39).1 (z39).2.2 (z39a).1 (z39a).2))) ms_X11_placeOf km_X11_186 rfl rfl ⟨Nat.le_of_ble_eq_true rfl, Nat.le_of_ble_eq_true rfl⟩ hK (fun _ => XPh.blind) (fun U hU hW => XPh.at hK hz hS hT hU hW) rfl hl.1 (Nat.le_of_ble_eq_true rfl) dX11_queue_51 ⟨Nat.le_of_ble_eq_true rfl, Nat.le_of_ble_eq_true rfl⟩) hS ?_
    rintro _ _ locs ⟨x51, rfl, t51⟩ hS
    have t51 : x51.toInt = 199 * (aI (G1.2.1 (F a 17)) (p0.toInt)) + (aI (G1.2.1 (F a 18)) (p0.toInt)) + 99 := by rw [(hv44 : Int32.toInt x44 = (aI (G1.2.1 (F a 17)) (p0.toInt)))] at t51; rw [(hv50 : Int32.toInt x50 = (aI (G1.2.1 (F a 18)) (p0.toInt)))] at t51; exact t51
    refine lv_istore_n (lv' := [(3, .int x51), (0, .ref a), (1, .int p0), (2, .int p1)]) hx hb dX11_queue_54 rfl hl (by decide) rfl (fun ls hl => ?_)
    refine lv_iload_n hx hb dX11_queue_55 rfl (lv_at hl 3 rfl) ?_
    rcases ((z_X11_queue_6 p1.toInt) : (p1.toInt < 0 ∨ 4 < p1.toInt) ∨ (p1.toInt = 0) ∨ (p1.toInt = 1) ∨ (p1.toInt = 2) ∨ (p1.toInt = 3) ∨ (p1.toInt = 4)) with c56 | c56 | c56 | c56 | c56 | c56
    · refine lv_tableOut (tgt := 150) hx hb dX11_queue_56 c56 (by decide) ?_
      refine lv_ldc (v := (-2147483648)) hx hb S.2.2.2.1 (S.2.2.2.2 _ (List.mem_cons_of_mem _ kc_X11_57)) dX11_queue_150 ?_
      exact x_ri hx hb hr hlk hQ (Nat.le_of_ble_eq_true rfl) (Nat.le_of_ble_eq_true rfl) hS dX11_queue_152 G26 ⟨_, rfl, (by rw [hG26]; exact XFr.dput (XFr.call XFr.rf hF1 (xm1 1 rfl (xm1 2 rfl xm0)) (xm1 0 rfl (xm1 1 rfl (xm1 2 rfl (xm1 3 rfl (xm1 4 rfl xm0))))) xm0) (List.mem_of_getElem? (i := 0) rfl)), (by rw [((by decide) : Int32.toInt (-2147483648) = (-2147483648 : Int))] <;> exact (v_X11_queue_152_7 (K := K) (F := F) a G G1 G26 p0 x15 p1 ha oq1 oq1a oq1b t1 t15 c18 z39 z39a c56 (ld_at hG26))), (v_X11_queue_152_8 a G G1 G26 hG26 oq1b)⟩ hT
    · refine lv_tableIn (off := 36) (tgt := 92) hx hb dX11_queue_56 (by rw [c56]; decide) (by rw [c56]; decide) (by rw [c56]; rfl) (by decide) ?_
      refine lv_aload_n hx hb dX11_queue_92 rfl (lv_at hl 1 rfl) ?_
      refine gX11_17 S hK hT ha kf_X11_51 dX11_queue_93 (fun _ _ => ?_)
      refine lv_iload_n hx hb dX11_queue_96 rfl (lv_at hl 2 rfl) ?_
      refine al_0 S hK hT hk9999a ar_43 (by decide) (z_X11_queue_3 p0.toInt x15.toInt ((G1.1 a 19).toInt) t1 t15 c18) dX11_queue_97 (fun x97 hv97 o97 => ?_)
      have hv97 : x97.toInt = (aI (G1.2.1 (F a 17)) (p0.toInt)) := hv97.trans (by rw [(rfl : Int32.toInt p0 = p0.toInt), ((ld_c hG26) : G26.2.1 (F a 17) = G1.2.1 (F a 17))])
      exact x_ri hx hb hr hlk hQ (Nat.le_of_ble_eq_true rfl) (Nat.le_of_ble_eq_true rfl) hS dX11_queue_98 G26 ⟨_, rfl, (by rw [hG26]; exact XFr.dput (XFr.call XFr.rf hF1 (xm1 1 rfl (xm1 2 rfl xm0)) (xm1 0 rfl (xm1 1 rfl (xm1 2 rfl (xm1 3 rfl (xm1 4 rfl xm0))))) xm0) (List.mem_of_getElem? (i := 0) rfl)), (by rw [(hv97 : Int32.toInt x97 = (aI (G1.2.1 (F a 17)) (p0.toInt)))] <;> exact (v_X11_queue_98_9 (K := K) (F := F) a G G1 G26 p0 x15 p1 ha oq1 oq1a oq1b t1 t15 c18 z39 z39a c56 (ld_at hG26))), (v_X11_queue_98_10 a G G1 G26 hG26 oq1b)⟩ hT
    · refine lv_tableIn (off := 43) (tgt := 99) hx hb dX11_queue_56 (by rw [c56]; decide) (by rw [c56]; decide) (by rw [c56]; rfl) (by decide) ?_
      refine lv_aload_n hx hb dX11_queue_99 rfl (lv_at hl 1 rfl) ?_
      refine gX11_18 S hK hT ha kf_X11_54 dX11_queue_100 (fun _ _ => ?_)
      refine lv_iload_n hx hb dX11_queue_103 rfl (lv_at hl 2 rfl) ?_
      refine al_0 S hK hT hk9999b ar_44 (by decide) (z_X11_queue_3 p0.toInt x15.toInt ((G1.1 a 19).toInt) t1 t15 c18) dX11_queue_104 (fun x104 hv104 o104 => ?_)
      have hv104 : x104.toInt = (aI (G1.2.1 (F a 18)) (p0.toInt)) := hv104.trans (by rw [(rfl : Int32.toInt p0 = p0.toInt), ((ld_c hG26) : G26.2.1 (F a 18) = G1.2.1 (F a 18))])
      exact x_ri hx hb hr hlk hQ (Nat.le_of_ble_eq_true rfl) (Nat.le_of_ble_eq_true rfl) hS dX11_queue_105 G26 ⟨_, rfl, (by rw [hG26]; exact XFr.dput (XFr.call XFr.rf hF1 (xm1 1 rfl (xm1 2 rfl xm0)) (xm1 0 rfl (xm1 1 rfl (xm1 2 rfl (xm1 3 rfl (xm1 4 rfl xm0))))) xm0) (List.mem_of_getElem? (i := 0) rfl)), (by rw [(hv104 : Int32.toInt x104 = (aI (G1.2.1 (F a 18)) (p0.toInt)))] <;> exact (v_X11_queue_105_11 (K := K) (F := F) a G G1 G26 p0 x15 p1 ha oq1 oq1a oq1b t1 t15 c18 z39 z39a c56 (ld_at hG26))), (v_X11_queue_105_12 a G G1 G26 hG26 oq1b)⟩ hT
    · refine lv_tableIn (off := 50) (tgt := 106) hx hb dX11_queue_56 (by rw [c56]; decide) (by rw [c56]; decide) (by rw [c56]; rfl) (by decide) ?_
      refine lv_aload_n hx hb dX11_queue_106 rfl (lv_at hl 1 rfl) ?_
      refine gX11_13 S hK hT ha kf_X11_42 dX11_queue_107 (fun _ _ => ?_)
      refine lv_iload_n hx hb dX11_queue_110 rfl (lv_at hl 0 rfl) ?_
      refine al_0 S hK hT hk9999d ar_38 (by decide) (by rw [(t51 : Int32.toInt x51 = 199 * (aI (G1.2.1 (F a 17)) (p0.toInt)) + (aI (G1.2.1 (F a 18)) (p0.toInt)) + 99)]; exact (z_X11_queue_9 (aI (G1.2.1 (F a 17)) (p0.toInt)) (aI (G1.2.1 (F a 18)) (p0.toInt)) (sF (aI (G.2.1 (F a 10)) (10 * (aI (G1.2.1 (F a 17)) (p0.toInt)) + 0))) (sL (aI (G.2.1 (F a 10)) (10 * (aI (G1.2.1 (F a 17)) (p0.toInt)) + 0))) (z39).1 (z39).2.2 (z39a).1 (z39a).2)) dX11_queue_111 (fun x111 hv111 o111 => ?_)
      have hv111 : x111.toInt = (aI (G1.2.1 (F a 13)) (199 * (aI (G1.2.1 (F a 17)) (p0.toInt)) + (aI (G1.2.1 (F a 18)) (p0.toInt)) + 99)) := hv111.trans (by rw [(t51 : Int32.toInt x51 = 199 * (aI (G1.2.1 (F a 17)) (p0.toInt)) + (aI (G1.2.1 (F a 18)) (p0.toInt)) + 99), ((ld_c hG26) : G26.2.1 (F a 13) = G1.2.1 (F a 13))])
      exact x_ri hx hb hr hlk hQ (Nat.le_of_ble_eq_true rfl) (Nat.le_of_ble_eq_true rfl) hS dX11_queue_112 G26 ⟨_, rfl, (by rw [hG26]; exact XFr.dput (XFr.call XFr.rf hF1 (xm1 1 rfl (xm1 2 rfl xm0)) (xm1 0 rfl (xm1 1 rfl (xm1 2 rfl (xm1 3 rfl (xm1 4 rfl xm0))))) xm0) (List.mem_of_getElem? (i := 0) rfl)), (by rw [(hv111 : Int32.toInt x111 = (aI (G1.2.1 (F a 13)) (199 * (aI (G1.2.1 (F a 17)) (p0.toInt)) + (aI (G1.2.1 (F a 18)) (p0.toInt)) + 99)))] <;> exact (v_X11_queue_112_13 (K := K) (F := F) a G G1 G26 p0 x15 p1 ha hk9999 hj9999 hk9999a hj9999a hk9999b hj9999b hk9999c hj9999c hk9999d hj9999d hk9999e hj9999e hk9999f hj9999f hk9999g hj9999g oq1 oq1a oq1b t1 t15 c18 z39 z39a c56 (ld_at hG26))), (v_X11_queue_112_14 a G G1 G26 hG26 oq1b)⟩ hT
    · refine lv_tableIn (off := 57) (tgt := 113) hx hb dX11_queue_56 (by rw [c56]; decide) (by rw [c56]; decide) (by rw [c56]; rfl) (by decide) ?_
      refine lv_aload_n hx hb dX11_queue_113 rfl (lv_at hl 1 rfl) ?_
      refine gX11_11 S hK hT ha kf_X11_36 dX11_queue_114 (fun _ _ => ?_)
      refine lv_iload_n hx hb dX11_queue_117 rfl (lv_at hl 0 rfl) ?_
      refine al_0 S hK hT hk9999c ar_38 (by decide) (by rw [(t51 : Int32.toInt x51 = 199 * (aI (G1.2.1 (F a 17)) (p0.toInt)) + (aI (G1.2.1 (F a 18)) (p0.toInt)) + 99)]; exact (z_X11_queue_9 (aI (G1.2.1 (F a 17)) (p0.toInt)) (aI (G1.2.1 (F a 18)) (p0.toInt)) (sF (aI (G.2.1 (F a 10)) (10 * (aI (G1.2.1 (F a 17)) (p0.toInt)) + 0))) (sL (aI (G.2.1 (F a 10)) (10 * (aI (G1.2.1 (F a 17)) (p0.toInt)) + 0))) (z39).1 (z39).2.2 (z39a).1 (z39a).2)) dX11_queue_118 (fun x118 hv118 o118 => ?_)
      have hv118 : x118.toInt = (aI (G1.2.1 (F a 11)) (199 * (aI (G1.2.1 (F a 17)) (p0.toInt)) + (aI (G1.2.1 (F a 18)) (p0.toInt)) + 99)) := hv118.trans (by rw [(t51 : Int32.toInt x51 = 199 * (aI (G1.2.1 (F a 17)) (p0.toInt)) + (aI (G1.2.1 (F a 18)) (p0.toInt)) + 99), ((ld_c hG26) : G26.2.1 (F a 11) = G1.2.1 (F a 11))])
      exact x_ri hx hb hr hlk hQ (Nat.le_of_ble_eq_true rfl) (Nat.le_of_ble_eq_true rfl) hS dX11_queue_119 G26 ⟨_, rfl, (by rw [hG26]; exact XFr.dput (XFr.call XFr.rf hF1 (xm1 1 rfl (xm1 2 rfl xm0)) (xm1 0 rfl (xm1 1 rfl (xm1 2 rfl (xm1 3 rfl (xm1 4 rfl xm0))))) xm0) (List.mem_of_getElem? (i := 0) rfl)), (by rw [(hv118 : Int32.toInt x118 = (aI (G1.2.1 (F a 11)) (199 * (aI (G1.2.1 (F a 17)) (p0.toInt)) + (aI (G1.2.1 (F a 18)) (p0.toInt)) + 99)))] <;> exact (v_X11_queue_119_15 (K := K) (F := F) a G G1 G26 p0 x15 p1 ha hk9999 hj9999 hk9999a hj9999a hk9999b hj9999b hk9999c hj9999c hk9999d hj9999d hk9999e hj9999e hk9999f hj9999f hk9999g hj9999g oq1 oq1a oq1b t1 t15 c18 z39 z39a c56 (ld_at hG26))), (v_X11_queue_119_16 a G G1 G26 hG26 oq1b)⟩ hT
    · refine lv_tableIn (off := 64) (tgt := 120) hx hb dX11_queue_56 (by rw [c56]; decide) (by rw [c56]; decide) (by rw [c56]; rfl) (by decide) ?_
      refine lv_aload_n hx hb dX11_queue_120 rfl (lv_at hl 1 rfl) ?_
      refine lv_aload_n hx hb dX11_queue_121 rfl (lv_at hl 1 rfl) ?_
      refine gX11_17 S hK hT ha kf_X11_51 dX11_queue_122 (fun _ _ => ?_)
      refine lv_iload_n hx hb dX11_queue_125 rfl (lv_at hl 2 rfl) ?_
      refine al_0 S hK hT hk9999a ar_43 (by decide) (z_X11_queue_3 p0.toInt x15.toInt ((G1.1 a 19).toInt) t1 t15 c18) dX11_queue_126 (fun x126 hv126 o126 => ?_)
      have hv126 : x126.toInt = (aI (G1.2.1 (F a 17)) (p0.toInt)) := hv126.trans (by rw [(rfl : Int32.toInt p0 = p0.toInt), ((ld_c hG26) : G26.2.1 (F a 17) = G1.2.1 (F a 17))])
      refine lv_aload_n hx hb dX11_queue_127 rfl (lv_at hl 1 rfl) ?_
      refine gX11_18 S hK hT ha kf_X11_54 dX11_queue_128 (fun _ _ => ?_)
      refine lv_iload_n hx hb dX11_queue_131 rfl (lv_at hl 2 rfl) ?_
      refine al_0 S hK hT hk9999b ar_44 (by decide) (z_X11_queue_3 p0.toInt x15.toInt ((G1.1 a 19).toInt) t1 t15 c18) dX11_queue_132 (fun x132 hv132 o132 => ?_)
      have hv132 : x132.toInt = (aI (G1.2.1 (F a 18)) (p0.toInt)) := hv132.trans (by rw [(rfl : Int32.toInt p0 = p0.toInt), ((ld_c hG26) : G26.2.1 (F a 18) = G1.2.1 (F a 18))])
      refine lv_aload_n hx hb dX11_queue_133 rfl (lv_at hl 1 rfl) ?_
      refine gX11_1 S hK hT ha kf_X11_9 dX11_queue_134 (fun _ _ => ?_)
      refine lv_iconst (v := 0) hx hb dX11_queue_137 (by decide) ?_
      refine x_clp (x_runV (b := a) (As := [.int x126, .int x132, .ref (F a 1), .int 0]) (rest := []) S (c_X11_fails l E K F G26 H a x126 x132 (F a 1) 0 ha (XO.a hk9999f (by decide)) (by rw [(hv126 : Int32.toInt x126 = (aI (G1.2.1 (F a 17)) (p0.toInt)))] <;> exact ((z39).1)) (by rw [(hv126 : Int32.toInt x126 = (aI (G1.2.1 (F a 17)) (p0.toInt))), (show G26.2.1 (F a 10) = G.2.1 (F a 10) from ((ld_c hG26).trans (hF1.2.1 _ (xn1 (xne_k hk9999e hk9999 (by decide)) (xn1 (xne_k hk9999e hk9999a (by decide)) (xn1 (xne_k hk9999e hk9999b (by decide)) (xn1 (xne_k hk9999e hk9999c (by decide)) (xn1 (xne_k hk9999e hk9999d (by decide)) xn0))))))))] <;> exact ((z39).2.1)) (by rw [(hv126 : Int32.toInt x126 = (aI (G1.2.1 (F a 17)) (p0.toInt))), (hv132 : Int32.toInt x132 = (aI (G1.2.1 (F a 18)) (p0.toInt))), (show G26.2.1 (F a 10) = G.2.1 (F a 10) from ((ld_c hG26).trans (hF1.2.1 _ (xn1 (xne_k hk9999e hk9999 (by decide)) (xn1 (xne_k hk9999e hk9999a (by decide)) (xn1 (xne_k hk9999e hk9999b (by decide)) (xn1 (xne_k hk9999e hk9999c (by decide)) (xn1 (xne_k hk9999e hk9999d (by decide)) xn0))))))))] <;> exact ((z39).2.2)) (v_X11_queue_138_17 (F := F) a G G26 hR ((ld_c hG26).trans (hF1.2.1 _ (xn1 (xne_k hk9999e hk9999 (by decide)) (xn1 (xne_k hk9999e hk9999a (by decide)) (xn1 (xne_k hk9999e hk9999b (by decide)) (xn1 (xne_k hk9999e hk9999c (by decide)) (xn1 (xne_k hk9999e hk9999d (by decide)) xn0)))))))) (v_X11_queue_138_18 (F := F) a G G26 hM hB ((ld_c hG26).trans (hF1.2.1 _ (xn1 (xne_k hk9999f hk9999 (by decide)) (xn1 (xne_k hk9999f hk9999a (by decide)) (xn1 (xne_k hk9999f hk9999b (by decide)) (xn1 (xne_k hk9999f hk9999c (by decide)) (xn1 (xne_k hk9999f hk9999d (by decide)) xn0))))))))) mv_X11_fails km_X11_221 rfl rfl ⟨Nat.le_of_ble_eq_true rfl, Nat.le_of_ble_eq_true rfl⟩ (rc_13 hK hT ha) hK (fun _ => XPh.blind) (fun U hU hW => XPh.at hK hz hS hT hU hW) rfl hl.1 (Nat.le_of_ble_eq_true rfl) dX11_queue_138 ⟨Nat.le_of_ble_eq_true rfl, Nat.le_of_ble_eq_true rfl⟩) hS ?_
      rintro _ _ locs ⟨x138, rfl, b138, t138⟩ hS
      have t138 : x138.toInt = (flq (mw (G.2.1 (F a 1)) 0) (aI (G.2.1 (F a 10)) (10 * (aI (G1.2.1 (F a 17)) (p0.toInt)) + 0)) (aI (G.2.1 (F a 10)) (10 * (aI (G1.2.1 (F a 17)) (p0.toInt)) + 1)) (aI (G.2.1 (F a 10)) (10 * (aI (G1.2.1 (F a 17)) (p0.toInt)) + 2)) (aI (G.2.1 (F a 10)) (10 * (aI (G1.2.1 (F a 17)) (p0.toInt)) + 4)) (aI (G.2.1 (F a 10)) (10 * (aI (G1.2.1 (F a 17)) (p0.toInt)) + 5)) (aI (G1.2.1 (F a 18)) (p0.toInt)) (stt (mw (G.2.1 (F a 1)) 0) (aI (G.2.1 (F a 10)) (10 * (aI (G1.2.1 (F a 17)) (p0.toInt)) + 0)) (aI (G.2.1 (F a 10)) (10 * (aI (G1.2.1 (F a 17)) (p0.toInt)) + 1)) (aI (G.2.1 (F a 10)) (10 * (aI (G1.2.1 (F a 17)) (p0.toInt)) + 2)) (aI (G.2.1 (F a 10)) (10 * (aI (G1.2.1 (F a 17)) (p0.toInt)) + 3)) (aI (G1.2.1 (F a 18)) (p0.toInt)))) := by rw [(hv126 : Int32.toInt x126 = (aI (G1.2.1 (F a 17)) (p0.toInt)))] at t138; rw [(hv132 : Int32.toInt x132 = (aI (G1.2.1 (F a 18)) (p0.toInt)))] at t138; rw [(show G26.2.1 (F a 1) = G.2.1 (F a 1) from ((ld_c hG26).trans (hF1.2.1 _ (xn1 (xne_k hk9999f hk9999 (by decide)) (xn1 (xne_k hk9999f hk9999a (by decide)) (xn1 (xne_k hk9999f hk9999b (by decide)) (xn1 (xne_k hk9999f hk9999c (by decide)) (xn1 (xne_k hk9999f hk9999d (by decide)) xn0))))))))] at t138; rw [(show G26.2.1 (F a 10) = G.2.1 (F a 10) from ((ld_c hG26).trans (hF1.2.1 _ (xn1 (xne_k hk9999e hk9999 (by decide)) (xn1 (xne_k hk9999e hk9999a (by decide)) (xn1 (xne_k hk9999e hk9999b (by decide)) (xn1 (xne_k hk9999e hk9999c (by decide)) (xn1 (xne_k hk9999e hk9999d (by decide)) xn0))))))))] at t138; exact t138
      refine xi_zeq (tgt := 148) hx hb (rfl : Int32.toInt x138 = x138.toInt) dX11_queue_141 (by decide) (fun c141 => ?_) (fun c141 => ?_)
      · refine lv_iconst (v := 0) hx hb dX11_queue_148 (by decide) ?_
        exact x_ri hx hb hr hlk hQ (Nat.le_of_ble_eq_true rfl) (Nat.le_of_ble_eq_true rfl) hS dX11_queue_149 G26 ⟨_, rfl, (by rw [hG26]; exact XFr.dput (XFr.call XFr.rf hF1 (xm1 1 rfl (xm1 2 rfl xm0)) (xm1 0 rfl (xm1 1 rfl (xm1 2 rfl (xm1 3 rfl (xm1 4 rfl xm0))))) xm0) (List.mem_of_getElem? (i := 0) rfl)), (v_X11_queue_149_19 (K := K) (F := F) a G G1 G26 p0 x15 p1 x138 ha oq1 oq1a oq1b t1 t15 c18 z39 z39a c56 t138 (xzi b138) c141 (ld_at hG26)), (v_X11_queue_149_20 a G G1 G26 hG26 oq1b)⟩ hT
      · refine lv_iconst (v := 1) hx hb dX11_queue_144 (by decide) ?_
        refine lv_goto (tgt := 149) hx hb dX11_queue_145 (by decide) ?_
        exact x_ri hx hb hr hlk hQ (Nat.le_of_ble_eq_true rfl) (Nat.le_of_ble_eq_true rfl) hS dX11_queue_149 G26 ⟨_, rfl, (by rw [hG26]; exact XFr.dput (XFr.call XFr.rf hF1 (xm1 1 rfl (xm1 2 rfl xm0)) (xm1 0 rfl (xm1 1 rfl (xm1 2 rfl (xm1 3 rfl (xm1 4 rfl xm0))))) xm0) (List.mem_of_getElem? (i := 0) rfl)), (v_X11_queue_149_21 (K := K) (F := F) a G G1 G26 p0 x15 p1 x138 ha oq1 oq1a oq1b t1 t15 c18 z39 z39a c56 t138 (xzi b138) c141 (ld_at hG26)), (v_X11_queue_149_22 a G G1 G26 hG26 oq1b)⟩ hT

theorem z_X11_first_1 (a0 : Int) (h0 : -2147483648 ≤ a0 ∧ a0 < 2147483648) : ¬ (2147483648 - a0 < ((0 : Nat) : Int)) := by omega
theorem z_X11_first_2 (a0 : Int) (h0 : 0 ≤ a0 ∧ a0 ≤ 2388) : 0 ≤ a0 ∧ a0 ≤ 2400 := by omega
theorem z_X11_first_3 (a0 : Int) (a1 : Int) (h0 : 0 ≤ a1 ∧ a1 ≤ 2388) (h1 : -1 ≤ a0 ∧ a0 < a1) (h2 : a0 ≠ (-1 : Int)) : 0 ≤ a0 ∧ a0 < ((2400 : Nat) : Int) := by omega
theorem z_X11_first_5 (a0 : Int) (a1 : Int) (h0 : 0 ≤ a0) (h1 : ¬ (a1 ≤ a0)) : 0 ≤ a0 ∧ a0 < a1 := by omega
theorem z_X11_first_6 (a0 : Int) (a1 : Int) (h0 : 0 ≤ a1 ∧ a1 ≤ 2388) (h1 : 0 ≤ a0) (h2 : ¬ (a1 ≤ a0)) : 0 ≤ a0 ∧ a0 < ((2400 : Nat) : Int) := by omega
theorem z_X11_first_11 (a0 : Int) (a1 : Int) (a2 : Int) (h0 : 0 ≤ a2 ∧ a2 ≤ 2388) (h1 : 0 ≤ a0) (h2 : ¬ (a2 ≤ a0)) (h3 : a1 = (a0 + 1) ∨ (a0 + 1) < -2147483648 ∨ 2147483648 ≤ (a0 + 1)) : a1 = (a0 + 1) := by omega
theorem z_X11_first_12 (a0 : Int) (h0 : 0 ≤ a0) : 0 ≤ (a0 + 1) := by omega
theorem z_X11_first_13 (a0 : Int) (h0 : 0 ≤ a0) : (0 : Int) ≤ (a0 + 1) := by omega
theorem z_X11_first_14 (a0 : Int) (a1 : Nat) (h0 : 2147483648 - a0 < ((a1 + 1 : Nat) : Int)) : 2147483648 - (a0 + 1) < ((a1 : Nat) : Int) := by omega
abbrev rm_X11_first : Room := { frames := 5, cells := 0, slots := 0, locals := 125 }
set_option maxHeartbeats 4000000 in
set_option maxRecDepth 100000 in
theorem c_X11_first (l : Launch) (E : XE) (K : Nat → Nat) (F : Nat → Nat → Nat) (G : XG) (a : Nat) (p0 : Int32) (ha : K a = 13) (hR : RV (G.2.1 (F a 10))) (hM : RM (G.2.1 (F a 1)) (0)) (hB : RM (G.2.1 (F a 2)) 0) : Met l yX11_first (xw yX11_first cX11_first 4 (some .int)) rm_X11_first (va_Pc [.ref a, .int p0] (XP E K F G)) (XQ E (fun v (u : XG) => ∃ r : Int32, v = .int r ∧ XFr [(a, 0), (a, 16), (a, 19)] [F a 15, F a 17, F a 18, F a 11, F a 13] [] G u) (fun u H => TW E K F u H)) 0 0 (xA E) := by
  refine x_enter (by decide) (Nat.le_of_ble_eq_true rfl) ?_
  intro p e s m args below meth c Q S hr hlk hnm hQ hP ls hl
  obtain ⟨hz, hK, hT⟩ := hP
  obtain ⟨hx, hb, -, -, -⟩ := id S
  obtain ⟨H, hT, hS, hgo⟩ : ∃ H : Heap, TW E K F G H ∧ va_S (xA E) s.heap H [] ∧ H = s.heap := ⟨_, hT, va_S.rf, rfl⟩
  rw [← hgo]
  have hl : lv_has ls 4 [(0, .ref a), (1, .int p0)] := hl
  obtain ⟨hk9999, hj9999⟩ := fkX11_15 hT ha
  obtain ⟨hk9999a, hj9999a⟩ := fkX11_17 hT ha
  obtain ⟨hk9999b, hj9999b⟩ := fkX11_18 hT ha
  obtain ⟨hk9999c, hj9999c⟩ := fkX11_11 hT ha
  obtain ⟨hk9999d, hj9999d⟩ := fkX11_13 hT ha
  obtain ⟨hk9999e, hj9999e⟩ := fkX11_10 hT ha
  obtain ⟨hk9999f, hj9999f⟩ := fkX11_1 hT ha
  obtain ⟨hk9999g, hj9999g⟩ := fkX11_2 hT ha
  refine lv_aload_n hx hb dX11_first_0 rfl (lv_at hl 0 rfl) ?_
  refine lv_iconst (v := 0) hx hb dX11_first_1 (by decide) ?_
  refine pX11_0 (v := 0) S hK hT hS ha kf_X11_134 dX11_first_2 (fun H locs hT hS => ?_)
  obtain ⟨G2, hG2⟩ : ∃ GG : XG, GG = dput G a 0 0 := ⟨_, rfl⟩
  rw [← hG2] at hT
  refine lv_iload_n hx hb dX11_first_5 rfl (lv_at hl 1 rfl) ?_
  refine lv_i2l (v := p0.toInt64) hx hb dX11_first_6 rfl ?_
  refine lv_lconst (v := (0 : Int64)) hx hb dX11_first_7 (by decide) ?_
  refine lv_ldc2 (v := 3) hx hb S.2.2.2.1 (S.2.2.2.2 _ (List.mem_cons_of_mem _ kc_X11_387)) dX11_first_8 ?_
  refine x_clp (x_runS (As := [.long p0.toInt64, .long (0 : Int64), .long (3 : Int64)]) (rest := []) S (c_X11_in l E K F G2 H p0.toInt64 p0.toInt (0 : Int64) (0 : Int) (3 : Int64) (3 : Int) (xl_i2l (rfl : Int32.toInt p0 = p0.toInt)) (by decide) (by decide)) ms_X11_in km_X11_139 rfl rfl ⟨Nat.le_of_ble_eq_true rfl, Nat.le_of_ble_eq_true rfl⟩ hK (fun _ => XPh.blind) (fun U hU hW => XPh.at hK hz hS hT hU hW) rfl hl.1 (Nat.le_of_ble_eq_true rfl) dX11_first_11 ⟨Nat.le_of_ble_eq_true rfl, Nat.le_of_ble_eq_true rfl⟩) hS ?_
  rintro _ _ locs ⟨x11, rfl, b11, t11⟩ hS
  have t11 : (x11.toInt = 1 ∧ (0 : Int) ≤ p0.toInt ∧ p0.toInt ≤ (3 : Int)) ∨ (x11.toInt = 0 ∧ (p0.toInt < (0 : Int) ∨ (3 : Int) < p0.toInt)) := t11
  refine xi_zne (tgt := 20) hx hb (rfl : Int32.toInt x11 = x11.toInt) dX11_first_14 (by decide) (fun c14 => ?_) (fun c14 => ?_)
  · refine lv_aload_n hx hb dX11_first_20 rfl (lv_at hl 0 rfl) ?_
    refine gX11_6 S hK hT ha kf_X11_206 dX11_first_21 (v := (G.1 a 6)) (ld_j hG2 (by decide)) (fun hz21 => ?_)
    refine xi_zne (tgt := 29) hx hb (rfl : Int32.toInt (G.1 a 6) = ((G.1 a 6).toInt)) dX11_first_24 (by decide) (fun c24 => ?_) (fun c24 => ?_)
    · refine lv_aload_n hx hb dX11_first_29 rfl (lv_at hl 0 rfl) ?_
      refine x_cv0 (x_runV (b := a) (As := []) (rest := []) S (c_X11_findQueue l E K F G2 a ha (v_X11_first_30_1 (F := F) a G2 G hR (ld_c hG2)) (v_X11_first_30_2 (F := F) a G2 G hM hB (ld_c hG2)) (v_X11_first_30_3 (F := F) a G2 G hM hB (ld_c hG2))) mv_X11_findQueue km_X11_218 rfl rfl ⟨Nat.le_of_ble_eq_true rfl, Nat.le_of_ble_eq_true rfl⟩ (rc_13 hK hT ha) hK (fun _ => XP.blind) (fun U hU hW => XP.at hK hz hS hT hU hW) rfl hl.1 (Nat.le_of_ble_eq_true rfl) dX11_first_30 ⟨Nat.le_of_ble_eq_true rfl, Nat.le_of_ble_eq_true rfl⟩) hS ?_
      rintro G30 H locs ⟨hF30, t30, oq30, oq30a, oq30b⟩ hT hS
      have t30 : 0 ≤ ((G30.1 a 19).toInt) ∧ ((G30.1 a 19).toInt) ≤ 2388 := t30
      have oq30 : pL G30 F a = if ((G.1 a 6).toInt) = 0 then [] else fuO (G.2.1 (F a 10)) (mw (G.2.1 (F a 1)) 0) (mw (G.2.1 (F a 2)) 0) 1 := by simp only [(show G2.1 a 6 = G.1 a 6 from (ld_j hG2 (by decide))), (show G2.2.1 (F a 10) = G.2.1 (F a 10) from (ld_c hG2)), (show G2.2.1 (F a 1) = G.2.1 (F a 1) from (ld_c hG2)), (show G2.2.1 (F a 2) = G.2.1 (F a 2) from (ld_c hG2))] at oq30; exact oq30
      have oq30a : ((G.1 a 6).toInt) ≠ 0 → LSt (G.2.1 (F a 10)) (G30.2.1 (F a 11)) (mw (G.2.1 (F a 1)) 0) 12 ∧ LSt (G.2.1 (F a 10)) (G30.2.1 (F a 13)) (mw (G.2.1 (F a 2)) 0) 12 := by simp only [(show G2.1 a 6 = G.1 a 6 from (ld_j hG2 (by decide))), (show G2.2.1 (F a 10) = G.2.1 (F a 10) from (ld_c hG2)), (show G2.2.1 (F a 1) = G.2.1 (F a 1) from (ld_c hG2)), (show G2.2.1 (F a 2) = G.2.1 (F a 2) from (ld_c hG2))] at oq30a; exact oq30a
      have hvq : PV (G.2.1 (F a 10)) (pL G30 F a) := (v_X11_first_33_4 (F := F) G30 a G oq30)
      refine lv_iconst (v := 0) hx hb dX11_first_33 (by decide) ?_
      refine lv_istore_n (lv' := [(2, .int 0), (0, .ref a), (1, .int p0)]) hx hb dX11_first_34 rfl hl (by decide) rfl (fun ls hl => ?_)
      refine lv_iconst (v := 0) hx hb dX11_first_35 (by decide) ?_
      refine lv_istore_n (lv' := [(3, .int 0), (2, .int 0), (0, .ref a), (1, .int p0)]) hx hb dX11_first_36 rfl hl (by decide) rfl (fun ls hl => ?_)
      have L37 : ∀ (N37 : Nat) (l2_37 : Int32) (l3_37 : Int32) (H : Heap) (locs : List Loc) (ls : Array Slot), 0 ≤ l3_37.toInt → (0 : Int) ≤ l3_37.toInt → 2147483648 - l3_37.toInt < ((N37 : Nat) : Int) → TW E K F G30 H → va_S (xA E) s.heap H locs → lv_has ls 4 [(0, .ref a), (1, .int p0), (2, .int l2_37), (3, .int l3_37)] → W p l e rm_X11_first s m args below meth c H locs 0 0 Q (F0 m 37 ls []) := by
        intro N37
        induction N37 with
        | zero =>
          intro l2_37 l3_37 H locs ls I37_0 I37_1 hm37
          exact absurd hm37 (z_X11_first_1 l3_37.toInt (xr l3_37))
        | succ N37 ih37 =>
          intro l2_37 l3_37 H locs ls I37_0 I37_1 hm37 hT hS hl
          refine lv_iload_n hx hb dX11_first_37 rfl (lv_at hl 3 rfl) ?_
          refine lv_aload_n hx hb dX11_first_38 rfl (lv_at hl 0 rfl) ?_
          refine gX11_19 S hK hT ha kf_X11_203 dX11_first_39 (v := (G30.1 a 19)) rfl (?_)
          refine xi_cge (tgt := 83) hx hb (rfl : Int32.toInt l3_37 = l3_37.toInt) (rfl : Int32.toInt (G30.1 a 19) = ((G30.1 a 19).toInt)) dX11_first_42 (by decide) (fun c42 => ?_) (fun c42 => ?_)
          · refine lv_aload_n hx hb dX11_first_83 rfl (lv_at hl 0 rfl) ?_
            refine x_clp (x_runV (b := a) (As := []) (rest := []) S (c_X11_firstFailing l E K F G30 H a ha (z_X11_first_2 ((G30.1 a 19).toInt) t30) (v_X11_first_84_5 (F := F) a G G30 hR ((hF30.2.1 _ (xn1 (xne_k hk9999e hk9999 (by decide)) (xn1 (xne_k hk9999e hk9999a (by decide)) (xn1 (xne_k hk9999e hk9999b (by decide)) (xn1 (xne_k hk9999e hk9999c (by decide)) (xn1 (xne_k hk9999e hk9999d (by decide)) xn0)))))).trans (ld_c hG2))) (v_X11_first_84_6 (F := F) a G G30 hM hB ((hF30.2.1 _ (xn1 (xne_k hk9999f hk9999 (by decide)) (xn1 (xne_k hk9999f hk9999a (by decide)) (xn1 (xne_k hk9999f hk9999b (by decide)) (xn1 (xne_k hk9999f hk9999c (by decide)) (xn1 (xne_k hk9999f hk9999d (by decide)) xn0)))))).trans (ld_c hG2))) (v_X11_first_84_7 (F := F) G a G30 hvq ((hF30.2.1 _ (xn1 (xne_k hk9999e hk9999 (by decide)) (xn1 (xne_k hk9999e hk9999a (by decide)) (xn1 (xne_k hk9999e hk9999b (by decide)) (xn1 (xne_k hk9999e hk9999c (by decide)) (xn1 (xne_k hk9999e hk9999d (by decide)) xn0)))))).trans (ld_c hG2)))) mv_X11_firstFailing km_X11_313 rfl rfl ⟨Nat.le_of_ble_eq_true rfl, Nat.le_of_ble_eq_true rfl⟩ (rc_13 hK hT ha) hK (fun _ => XPh.blind) (fun U hU hW => XPh.at hK hz hS hT hU hW) rfl hl.1 (Nat.le_of_ble_eq_true rfl) dX11_first_84 ⟨Nat.le_of_ble_eq_true rfl, Nat.le_of_ble_eq_true rfl⟩) hS ?_
            rintro _ _ locs ⟨x84, rfl, t84, oq84⟩ hS
            have t84 : -1 ≤ x84.toInt ∧ x84.toInt < ((G30.1 a 19).toInt) := t84
            have oq84 : x84.toInt = ffP (G.2.1 (F a 10)) (mw (G.2.1 (F a 1)) 0) (pL G30 F a) := by simp only [(show G30.2.1 (F a 10) = G.2.1 (F a 10) from ((hF30.2.1 _ (xn1 (xne_k hk9999e hk9999 (by decide)) (xn1 (xne_k hk9999e hk9999a (by decide)) (xn1 (xne_k hk9999e hk9999b (by decide)) (xn1 (xne_k hk9999e hk9999c (by decide)) (xn1 (xne_k hk9999e hk9999d (by decide)) xn0)))))).trans (ld_c hG2))), (show G30.2.1 (F a 1) = G.2.1 (F a 1) from ((hF30.2.1 _ (xn1 (xne_k hk9999f hk9999 (by decide)) (xn1 (xne_k hk9999f hk9999a (by decide)) (xn1 (xne_k hk9999f hk9999b (by decide)) (xn1 (xne_k hk9999f hk9999c (by decide)) (xn1 (xne_k hk9999f hk9999d (by decide)) xn0)))))).trans (ld_c hG2)))] at oq84; exact oq84
            refine lv_istore_n (lv' := [(3, .int x84), (0, .ref a), (1, .int p0), (2, .int l2_37)]) hx hb dX11_first_87 rfl hl (by decide) rfl (fun ls hl => ?_)
            refine lv_iload_n hx hb dX11_first_88 rfl (lv_at hl 2 rfl) ?_
            refine lv_iconst (v := 3) hx hb dX11_first_89 (by decide) ?_
            refine xi_cne (tgt := 97) hx hb (rfl : Int32.toInt p0 = p0.toInt) ((by decide) : Int32.toInt 3 = (3 : Int)) dX11_first_90 (by decide) (fun c90 => ?_) (fun c90 => ?_)
            · refine lv_iload_n hx hb dX11_first_97 rfl (lv_at hl 0 rfl) ?_
              refine lv_iconst (v := (-1)) hx hb dX11_first_98 (by decide) ?_
              refine xi_cne (tgt := 106) hx hb (rfl : Int32.toInt x84 = x84.toInt) ((by decide) : Int32.toInt (-1) = (-1 : Int)) dX11_first_99 (by decide) (fun c99 => ?_) (fun c99 => ?_)
              · refine lv_iload_n hx hb dX11_first_106 rfl (lv_at hl 2 rfl) ?_
                refine xi_zne (tgt := 119) hx hb (rfl : Int32.toInt p0 = p0.toInt) dX11_first_107 (by decide) (fun c107 => ?_) (fun c107 => ?_)
                · refine lv_iload_n hx hb dX11_first_119 rfl (lv_at hl 2 rfl) ?_
                  refine lv_iconst (v := 1) hx hb dX11_first_120 (by decide) ?_
                  refine xi_cne (tgt := 133) hx hb (rfl : Int32.toInt p0 = p0.toInt) ((by decide) : Int32.toInt 1 = (1 : Int)) dX11_first_121 (by decide) (fun c121 => ?_) (fun c121 => ?_)
                  · refine lv_iload_n hx hb dX11_first_133 rfl (lv_at hl 0 rfl) ?_
                    exact x_ri hx hb hr hlk hQ (Nat.le_of_ble_eq_true rfl) (Nat.le_of_ble_eq_true rfl) hS dX11_first_134 G30 ⟨_, rfl, (XFr.call (by rw [hG2]; exact XFr.dput XFr.rf (List.mem_of_getElem? (i := 0) rfl)) hF30 (xm1 1 rfl (xm1 2 rfl xm0)) (xm1 0 rfl (xm1 1 rfl (xm1 2 rfl (xm1 3 rfl (xm1 4 rfl xm0))))) xm0)⟩ hT
                  · refine lv_aload_n hx hb dX11_first_124 rfl (lv_at hl 1 rfl) ?_
                    refine gX11_18 S hK hT ha kf_X11_54 dX11_first_125 (fun _ _ => ?_)
                    refine lv_iload_n hx hb dX11_first_128 rfl (lv_at hl 0 rfl) ?_
                    refine al_0 S hK hT hk9999b ar_44 (by decide) (z_X11_first_3 x84.toInt ((G30.1 a 19).toInt) t30 t84 c99) dX11_first_129 (fun x129 hv129 o129 => ?_)
                    have hv129 : x129.toInt = (aI (G30.2.1 (F a 18)) (x84.toInt)) := hv129.trans (by rw [(rfl : Int32.toInt x84 = x84.toInt)])
                    refine lv_goto (tgt := 134) hx hb dX11_first_130 (by decide) ?_
                    exact x_ri hx hb hr hlk hQ (Nat.le_of_ble_eq_true rfl) (Nat.le_of_ble_eq_true rfl) hS dX11_first_134 G30 ⟨_, rfl, (XFr.call (by rw [hG2]; exact XFr.dput XFr.rf (List.mem_of_getElem? (i := 0) rfl)) hF30 (xm1 1 rfl (xm1 2 rfl xm0)) (xm1 0 rfl (xm1 1 rfl (xm1 2 rfl (xm1 3 rfl (xm1 4 rfl xm0))))) xm0)⟩ hT
                · refine lv_aload_n hx hb dX11_first_110 rfl (lv_at hl 1 rfl) ?_
                  refine gX11_17 S hK hT ha kf_X11_51 dX11_first_111 (fun _ _ => ?_)
                  refine lv_iload_n hx hb dX11_first_114 rfl (lv_at hl 0 rfl) ?_
                  refine al_0 S hK hT hk9999a ar_43 (by decide) (z_X11_first_3 x84.toInt ((G30.1 a 19).toInt) t30 t84 c99) dX11_first_115 (fun x115 hv115 o115 => ?_)
                  have hv115 : x115.toInt = (aI (G30.2.1 (F a 17)) (x84.toInt)) := hv115.trans (by rw [(rfl : Int32.toInt x84 = x84.toInt)])
                  refine lv_goto (tgt := 134) hx hb dX11_first_116 (by decide) ?_
                  exact x_ri hx hb hr hlk hQ (Nat.le_of_ble_eq_true rfl) (Nat.le_of_ble_eq_true rfl) hS dX11_first_134 G30 ⟨_, rfl, (XFr.call (by rw [hG2]; exact XFr.dput XFr.rf (List.mem_of_getElem? (i := 0) rfl)) hF30 (xm1 1 rfl (xm1 2 rfl xm0)) (xm1 0 rfl (xm1 1 rfl (xm1 2 rfl (xm1 3 rfl (xm1 4 rfl xm0))))) xm0)⟩ hT
              · refine lv_iconst (v := (-1)) hx hb dX11_first_102 (by decide) ?_
                refine lv_goto (tgt := 134) hx hb dX11_first_103 (by decide) ?_
                exact x_ri hx hb hr hlk hQ (Nat.le_of_ble_eq_true rfl) (Nat.le_of_ble_eq_true rfl) hS dX11_first_134 G30 ⟨_, rfl, (XFr.call (by rw [hG2]; exact XFr.dput XFr.rf (List.mem_of_getElem? (i := 0) rfl)) hF30 (xm1 1 rfl (xm1 2 rfl xm0)) (xm1 0 rfl (xm1 1 rfl (xm1 2 rfl (xm1 3 rfl (xm1 4 rfl xm0))))) xm0)⟩ hT
            · refine lv_iload_n hx hb dX11_first_93 rfl (lv_at hl 3 rfl) ?_
              refine lv_goto (tgt := 134) hx hb dX11_first_94 (by decide) ?_
              exact x_ri hx hb hr hlk hQ (Nat.le_of_ble_eq_true rfl) (Nat.le_of_ble_eq_true rfl) hS dX11_first_134 G30 ⟨_, rfl, (XFr.call (by rw [hG2]; exact XFr.dput XFr.rf (List.mem_of_getElem? (i := 0) rfl)) hF30 (xm1 1 rfl (xm1 2 rfl xm0)) (xm1 0 rfl (xm1 1 rfl (xm1 2 rfl (xm1 3 rfl (xm1 4 rfl xm0))))) xm0)⟩ hT
          · have z45 : (0 ≤ (aI (G30.2.1 (F a 17)) (l3_37.toInt)) ∧ (aI (G30.2.1 (F a 17)) (l3_37.toInt)) ≤ 11) ∧ (aI (G.2.1 (F a 10)) (10 * (aI (G30.2.1 (F a 17)) (l3_37.toInt)) + 0)) ≠ -1 ∧ ((sF (aI (G.2.1 (F a 10)) (10 * (aI (G30.2.1 (F a 17)) (l3_37.toInt)) + 0))) ≤ (aI (G30.2.1 (F a 18)) (l3_37.toInt)) ∧ (aI (G30.2.1 (F a 18)) (l3_37.toInt)) ≤ (sL (aI (G.2.1 (F a 10)) (10 * (aI (G30.2.1 (F a 17)) (l3_37.toInt)) + 0)))) := pv_at hvq (z_X11_first_5 l3_37.toInt ((G30.1 a 19).toInt) I37_0 c42)
            have z45a : ((sF (aI (G.2.1 (F a 10)) (10 * (aI (G30.2.1 (F a 17)) (l3_37.toInt)) + 0))) = 0 ∨ (sF (aI (G.2.1 (F a 10)) (10 * (aI (G30.2.1 (F a 17)) (l3_37.toInt)) + 0))) = -99) ∧ ((sL (aI (G.2.1 (F a 10)) (10 * (aI (G30.2.1 (F a 17)) (l3_37.toInt)) + 0))) = 29 ∨ (sL (aI (G.2.1 (F a 10)) (10 * (aI (G30.2.1 (F a 17)) (l3_37.toInt)) + 0))) = 99) := sFLb _
            refine lv_iload_n hx hb dX11_first_45 rfl (lv_at hl 2 rfl) ?_
            refine lv_aload_n hx hb dX11_first_46 rfl (lv_at hl 0 rfl) ?_
            refine lv_aload_n hx hb dX11_first_47 rfl (lv_at hl 0 rfl) ?_
            refine gX11_17 S hK hT ha kf_X11_51 dX11_first_48 (fun _ _ => ?_)
            refine lv_iload_n hx hb dX11_first_51 rfl (lv_at hl 3 rfl) ?_
            refine al_0 S hK hT hk9999a ar_43 (by decide) (z_X11_first_6 l3_37.toInt ((G30.1 a 19).toInt) t30 I37_0 c42) dX11_first_52 (fun x52 hv52 o52 => ?_)
            have hv52 : x52.toInt = (aI (G30.2.1 (F a 17)) (l3_37.toInt)) := hv52.trans (by rw [(rfl : Int32.toInt l3_37 = l3_37.toInt)])
            refine lv_aload_n hx hb dX11_first_53 rfl (lv_at hl 0 rfl) ?_
            refine gX11_18 S hK hT ha kf_X11_54 dX11_first_54 (fun _ _ => ?_)
            refine lv_iload_n hx hb dX11_first_57 rfl (lv_at hl 3 rfl) ?_
            refine al_0 S hK hT hk9999b ar_44 (by decide) (z_X11_first_6 l3_37.toInt ((G30.1 a 19).toInt) t30 I37_0 c42) dX11_first_58 (fun x58 hv58 o58 => ?_)
            have hv58 : x58.toInt = (aI (G30.2.1 (F a 18)) (l3_37.toInt)) := hv58.trans (by rw [(rfl : Int32.toInt l3_37 = l3_37.toInt)])
            refine lv_aload_n hx hb dX11_first_59 rfl (lv_at hl 0 rfl) ?_
            refine gX11_1 S hK hT ha kf_X11_9 dX11_first_60 (fun _ _ => ?_)
            refine lv_iconst (v := 0) hx hb dX11_first_63 (by decide) ?_
            refine x_clp (x_runV (b := a) (As := [.int x52, .int x58, .ref (F a 1), .int 0]) (rest := [.int l2_37]) S (c_X11_fails l E K F G30 H a x52 x58 (F a 1) 0 ha (XO.a hk9999f (by decide)) (by rw [(hv52 : Int32.toInt x52 = (aI (G30.2.1 (F a 17)) (l3_37.toInt)))] <;> exact ((z45).1)) (by rw [(hv52 : Int32.toInt x52 = (aI (G30.2.1 (F a 17)) (l3_37.toInt))), (show G30.2.1 (F a 10) = G.2.1 (F a 10) from ((hF30.2.1 _ (xn1 (xne_k hk9999e hk9999 (by decide)) (xn1 (xne_k hk9999e hk9999a (by decide)) (xn1 (xne_k hk9999e hk9999b (by decide)) (xn1 (xne_k hk9999e hk9999c (by decide)) (xn1 (xne_k hk9999e hk9999d (by decide)) xn0)))))).trans (ld_c hG2)))] <;> exact ((z45).2.1)) (by rw [(hv52 : Int32.toInt x52 = (aI (G30.2.1 (F a 17)) (l3_37.toInt))), (hv58 : Int32.toInt x58 = (aI (G30.2.1 (F a 18)) (l3_37.toInt))), (show G30.2.1 (F a 10) = G.2.1 (F a 10) from ((hF30.2.1 _ (xn1 (xne_k hk9999e hk9999 (by decide)) (xn1 (xne_k hk9999e hk9999a (by decide)) (xn1 (xne_k hk9999e hk9999b (by decide)) (xn1 (xne_k hk9999e hk9999c (by decide)) (xn1 (xne_k hk9999e hk9999d (by decide)) xn0)))))).trans (ld_c hG2)))] <;> exact ((z45).2.2)) (v_X11_first_64_8 (F := F) a G G30 hR ((hF30.2.1 _ (xn1 (xne_k hk9999e hk9999 (by decide)) (xn1 (xne_k hk9999e hk9999a (by decide)) (xn1 (xne_k hk9999e hk9999b (by decide)) (xn1 (xne_k hk9999e hk9999c (by decide)) (xn1 (xne_k hk9999e hk9999d (by decide)) xn0)))))).trans (ld_c hG2))) (v_X11_first_64_9 (F := F) a G G30 hM hB ((hF30.2.1 _ (xn1 (xne_k hk9999f hk9999 (by decide)) (xn1 (xne_k hk9999f hk9999a (by decide)) (xn1 (xne_k hk9999f hk9999b (by decide)) (xn1 (xne_k hk9999f hk9999c (by decide)) (xn1 (xne_k hk9999f hk9999d (by decide)) xn0)))))).trans (ld_c hG2)))) mv_X11_fails km_X11_221 rfl rfl ⟨Nat.le_of_ble_eq_true rfl, Nat.le_of_ble_eq_true rfl⟩ (rc_13 hK hT ha) hK (fun _ => XPh.blind) (fun U hU hW => XPh.at hK hz hS hT hU hW) rfl hl.1 (Nat.le_of_ble_eq_true rfl) dX11_first_64 ⟨Nat.le_of_ble_eq_true rfl, Nat.le_of_ble_eq_true rfl⟩) hS ?_
            rintro _ _ locs ⟨x64, rfl, b64, t64⟩ hS
            have t64 : x64.toInt = (flq (mw (G.2.1 (F a 1)) 0) (aI (G.2.1 (F a 10)) (10 * (aI (G30.2.1 (F a 17)) (l3_37.toInt)) + 0)) (aI (G.2.1 (F a 10)) (10 * (aI (G30.2.1 (F a 17)) (l3_37.toInt)) + 1)) (aI (G.2.1 (F a 10)) (10 * (aI (G30.2.1 (F a 17)) (l3_37.toInt)) + 2)) (aI (G.2.1 (F a 10)) (10 * (aI (G30.2.1 (F a 17)) (l3_37.toInt)) + 4)) (aI (G.2.1 (F a 10)) (10 * (aI (G30.2.1 (F a 17)) (l3_37.toInt)) + 5)) (aI (G30.2.1 (F a 18)) (l3_37.toInt)) (stt (mw (G.2.1 (F a 1)) 0) (aI (G.2.1 (F a 10)) (10 * (aI (G30.2.1 (F a 17)) (l3_37.toInt)) + 0)) (aI (G.2.1 (F a 10)) (10 * (aI (G30.2.1 (F a 17)) (l3_37.toInt)) + 1)) (aI (G.2.1 (F a 10)) (10 * (aI (G30.2.1 (F a 17)) (l3_37.toInt)) + 2)) (aI (G.2.1 (F a 10)) (10 * (aI (G30.2.1 (F a 17)) (l3_37.toInt)) + 3)) (aI (G30.2.1 (F a 18)) (l3_37.toInt)))) := by rw [(hv52 : Int32.toInt x52 = (aI (G30.2.1 (F a 17)) (l3_37.toInt)))] at t64; rw [(hv58 : Int32.toInt x58 = (aI (G30.2.1 (F a 18)) (l3_37.toInt)))] at t64; rw [(show G30.2.1 (F a 1) = G.2.1 (F a 1) from ((hF30.2.1 _ (xn1 (xne_k hk9999f hk9999 (by decide)) (xn1 (xne_k hk9999f hk9999a (by decide)) (xn1 (xne_k hk9999f hk9999b (by decide)) (xn1 (xne_k hk9999f hk9999c (by decide)) (xn1 (xne_k hk9999f hk9999d (by decide)) xn0)))))).trans (ld_c hG2)))] at t64; rw [(show G30.2.1 (F a 10) = G.2.1 (F a 10) from ((hF30.2.1 _ (xn1 (xne_k hk9999e hk9999 (by decide)) (xn1 (xne_k hk9999e hk9999a (by decide)) (xn1 (xne_k hk9999e hk9999b (by decide)) (xn1 (xne_k hk9999e hk9999c (by decide)) (xn1 (xne_k hk9999e hk9999d (by decide)) xn0)))))).trans (ld_c hG2)))] at t64; exact t64
            refine xi_zeq (tgt := 74) hx hb (rfl : Int32.toInt x64 = x64.toInt) dX11_first_67 (by decide) (fun c67 => ?_) (fun c67 => ?_)
            · refine lv_iconst (v := 0) hx hb dX11_first_74 (by decide) ?_
              refine xi_iadd hx hb (rfl : Int32.toInt l2_37 = l2_37.toInt) ((by decide) : Int32.toInt 0 = (0 : Int)) dX11_first_75 (fun x75 t75 => ?_)
              refine lv_istore_n (lv' := [(2, .int x75), (0, .ref a), (1, .int p0), (3, .int l3_37)]) hx hb dX11_first_76 rfl hl (by decide) rfl (fun ls hl => ?_)
              refine xi_iinc (n := 1) (lv' := fun z9 => [(3, .int z9), (2, .int x75), (0, .ref a), (1, .int p0)]) (k := 3) hx hb (rfl : Int32.toInt l3_37 = l3_37.toInt) (by decide) dX11_first_77 hl rfl (by decide) (fun _ => rfl) (fun x77 ls t77 hl => ?_)
              have e77 : x77.toInt = (l3_37.toInt + 1) := (z_X11_first_11 l3_37.toInt x77.toInt ((G30.1 a 19).toInt) t30 I37_0 c42 t77)
              have hl : lv_has ls 4 [(3, .int x77), (2, .int x75), (0, .ref a), (1, .int p0)] := hl
              refine lv_goto (tgt := 37) hx hb dX11_first_80 (by decide) ?_
              exact ih37 x75 x77 _ _ _ (by rw [(e77 : Int32.toInt x77 = (l3_37.toInt + 1))] <;> exact (z_X11_first_12 l3_37.toInt I37_0)) (by rw [(e77 : Int32.toInt x77 = (l3_37.toInt + 1))] <;> exact (z_X11_first_13 l3_37.toInt I37_0)) (by rw [(e77 : Int32.toInt x77 = (l3_37.toInt + 1))] <;> exact (z_X11_first_14 l3_37.toInt N37 hm37)) hT hS (lv_sub hl [2, 3, 1, 0] rfl)
            · refine lv_iconst (v := 1) hx hb dX11_first_70 (by decide) ?_
              refine lv_goto (tgt := 75) hx hb dX11_first_71 (by decide) ?_
              refine xi_iadd hx hb (rfl : Int32.toInt l2_37 = l2_37.toInt) ((by decide) : Int32.toInt 1 = (1 : Int)) dX11_first_75 (fun x75 t75 => ?_)
              refine lv_istore_n (lv' := [(2, .int x75), (0, .ref a), (1, .int p0), (3, .int l3_37)]) hx hb dX11_first_76 rfl hl (by decide) rfl (fun ls hl => ?_)
              refine xi_iinc (n := 1) (lv' := fun z9 => [(3, .int z9), (2, .int x75), (0, .ref a), (1, .int p0)]) (k := 3) hx hb (rfl : Int32.toInt l3_37 = l3_37.toInt) (by decide) dX11_first_77 hl rfl (by decide) (fun _ => rfl) (fun x77 ls t77 hl => ?_)
              have e77 : x77.toInt = (l3_37.toInt + 1) := (z_X11_first_11 l3_37.toInt x77.toInt ((G30.1 a 19).toInt) t30 I37_0 c42 t77)
              have hl : lv_has ls 4 [(3, .int x77), (2, .int x75), (0, .ref a), (1, .int p0)] := hl
              refine lv_goto (tgt := 37) hx hb dX11_first_80 (by decide) ?_
              exact ih37 x75 x77 _ _ _ (by rw [(e77 : Int32.toInt x77 = (l3_37.toInt + 1))] <;> exact (z_X11_first_12 l3_37.toInt I37_0)) (by rw [(e77 : Int32.toInt x77 = (l3_37.toInt + 1))] <;> exact (z_X11_first_13 l3_37.toInt I37_0)) (by rw [(e77 : Int32.toInt x77 = (l3_37.toInt + 1))] <;> exact (z_X11_first_14 l3_37.toInt N37 hm37)) hT hS (lv_sub hl [2, 3, 1, 0] rfl)
      exact L37 4294967297 0 0 _ _ _ (by decide) (by decide) (by decide) hT hS (lv_sub hl [2, 3, 1, 0] rfl)
    · refine lv_iconst (v := (-1)) hx hb dX11_first_27 (by decide) ?_
      exact x_ri hx hb hr hlk hQ (Nat.le_of_ble_eq_true rfl) (Nat.le_of_ble_eq_true rfl) hS dX11_first_28 G2 ⟨_, rfl, (by rw [hG2]; exact XFr.dput XFr.rf (List.mem_of_getElem? (i := 0) rfl))⟩ hT
  · refine lv_ldc (v := (-2147483648)) hx hb S.2.2.2.1 (S.2.2.2.2 _ (List.mem_cons_of_mem _ kc_X11_57)) dX11_first_17 ?_
    exact x_ri hx hb hr hlk hQ (Nat.le_of_ble_eq_true rfl) (Nat.le_of_ble_eq_true rfl) hS dX11_first_19 G2 ⟨_, rfl, (by rw [hG2]; exact XFr.dput XFr.rf (List.mem_of_getElem? (i := 0) rfl))⟩ hT

theorem z_X11_group_1 (a0 : Int) (a1 : Int) (h0 : 1 ≤ a0 ∧ a0 ≤ a1 + 1) (h1 : a1 ≤ 2388) : ¬ (5000 - a0 < ((0 : Nat) : Int)) := by omega
theorem z_X11_group_3 (a0 : Int) (a1 : Int) (a2 : Int) (a3 : Int) (a4 : Int) (h0 : 0 ≤ a0 ∧ a0 < a1) (h1 : a0 = a2 ∨ a0 = 0 ∨ a4 ≠ a3) (h2 : ¬ (a2 < a1)) : a0 = 0 ∨ a4 ≠ a3 := by omega
theorem z_X11_group_4 (a0 : Int) (a1 : Int) (h0 : ¬ (a1 < a0)) : a0 ≤ a1 := by omega
theorem z_X11_group_5 (a0 : Int) (a1 : Int) (h0 : 0 ≤ a0 ∧ a0 < a1) : a0 ≤ a1 - 1 := by omega
theorem z_X11_group_6 (a0 : Int) : a0 - 1 < a0 := by omega
theorem z_X11_group_7 (a0 : Int) (a1 : Int) (h0 : ¬ (a1 < a0)) : a0 - 1 < a1 := by omega
theorem z_X11_group_8 (a0 : Int) (a1 : Int) (a2 : Int) (a3 : Int) (h0 : 0 ≤ a3 ∧ a3 ≤ 2388) (h1 : 0 ≤ a0 ∧ a0 ≤ a1) (h2 : ¬ (a3 < a1)) (h3 : a2 = (a0 + 1) ∨ (a0 + 1) < -2147483648 ∨ 2147483648 ≤ (a0 + 1)) : a2 = (a0 + 1) := by omega
theorem z_X11_group_9 (a0 : Int) (a1 : Int) (a2 : Int) (h0 : 0 ≤ a2 ∧ a2 ≤ 2388) (h1 : 1 ≤ a0 ∧ a0 ≤ a2 + 1) (h2 : a1 = (a0 + 1) ∨ (a0 + 1) < -2147483648 ∨ 2147483648 ≤ (a0 + 1)) : a1 = (a0 + 1) := by omega
theorem z_X11_group_10 (a0 : Int) (a1 : Int) (h0 : 1 ≤ a0 ∧ a0 ≤ a1 + 1) (h1 : ¬ (a1 < a0)) : 1 ≤ (a0 + 1) ∧ (a0 + 1) ≤ a1 + 1 := by omega
theorem z_X11_group_11 (a0 : Int) (a1 : Int) (h0 : 1 ≤ a0 ∧ a0 ≤ a1 + 1) : 0 ≤ a0 ∧ a0 < (a0 + 1) := by omega
theorem z_X11_group_12 (a0 : Int) (a1 : Int) (h0 : 0 ≤ a0 ∧ a0 ≤ a1) : 0 ≤ (a0 + 1) ∧ (a0 + 1) ≤ (a1 + 1) := by omega
theorem z_X11_group_13 (a0 : Int) (h0 : 0 ≤ a0 ∧ a0 ≤ 2388) : a0 ≤ 2388 := by omega
theorem z_X11_group_14 (a0 : Int) (a1 : Int) (a2 : Int) (h0 : a0 = a1) (h1 : a2 = a1 + 1) : (a0 + 1) = a2 := by omega
theorem z_X11_group_15 (a0 : Int) (a1 : Int) (a2 : Int) (a3 : Int) (h0 : a0 = a1) : a0 = a1 ∨ a0 = 0 ∨ a3 ≠ a2 := by omega
theorem z_X11_group_16 (a0 : Int) (a1 : Int) (h0 : a1 < 0 ∨ a0 ≤ a1) (h1 : a0 ≠ a1) : a1 < 0 ∨ (a0 + 1) ≤ a1 := by omega
theorem z_X11_group_17 (a0 : Int) (a1 : Int) (h0 : ¬ (a1 < a0)) : (a0 + 1) ≤ a1 ∨ a0 = a1 := by omega
theorem z_X11_group_19 (a0 : Int) (a1 : Nat) (h0 : 5000 - a0 < ((a1 + 1 : Nat) : Int)) : 5000 - (a0 + 1) < ((a1 : Nat) : Int) := by omega
theorem z_X11_group_20 (a0 : Int) (a1 : Int) (a2 : Int) (h0 : 0 ≤ a2 ∧ a2 ≤ 2388) (h1 : 0 ≤ a0 ∧ a0 < a1) (h2 : ¬ (a2 < a1)) : 0 ≤ a0 ∧ a0 < ((2400 : Nat) : Int) := by omega
theorem z_X11_group_21 (a0 : Int) (a1 : Int) (h0 : 0 ≤ a1 ∧ a1 ≤ 2388) (h1 : 1 ≤ a0 ∧ a0 ≤ a1 + 1) : 0 ≤ a0 ∧ a0 < ((2400 : Nat) : Int) := by omega
theorem z_X11_group_25 (a0 : Int) (a1 : Int) (h0 : 0 ≤ a0 ∧ a0 < a1) : 0 ≤ a0 ∧ a0 < (a1 + 1) := by omega
theorem z_X11_group_26 (a0 : Int) (a1 : Int) (h0 : 0 ≤ a0 ∧ a0 ≤ a1) : 0 ≤ a0 ∧ a0 ≤ (a1 + 1) := by omega
theorem z_X11_group_31 (a0 : Int) (a1 : Int) (a2 : Int) (h0 : ¬ (a2 < a1)) (h1 : ¬ (a1 = a2)) : (a1 + 1) ≤ a2 ∨ a0 = a2 := by omega
theorem z_X11_group_47 (a0 : Int) (a1 : Int) (a2 : Int) (a3 : Int) (a4 : Int) (h0 : ¬ (a4 = a2)) (h1 : a3 = a2) : a0 = a1 ∨ a0 = 0 ∨ a4 ≠ a3 := by omega
theorem z_X11_group_53 (a0 : Int) (h0 : 0 ≤ a0 ∧ a0 ≤ 2388) : 1 ≤ (1 : Int) ∧ (1 : Int) ≤ a0 + 1 := by omega
theorem z_X11_group_55 (a0 : Int) (h0 : a0 = 0) : (0 : Int) = a0 := by omega
theorem z_X11_group_56 (a0 : Int) (a1 : Int) (a2 : Int) : (0 : Int) = a0 ∨ (0 : Int) = 0 ∨ a2 ≠ a1 := by omega
theorem z_X11_group_57 (a0 : Int) : a0 < 0 ∨ (0 : Int) ≤ a0 := by omega
theorem z_X11_group_58 (a0 : Int) (h0 : 0 ≤ a0 ∧ a0 ≤ 2388) : (1 : Int) ≤ a0 ∨ (0 : Int) = a0 := by omega
theorem z_X11_group_59 (a0 : Int) (h0 : 0 ≤ a0 ∧ a0 ≤ 2388) : (0 : Int) ≤ a0 := by omega
abbrev rm_X11_group : Room := { frames := 5, cells := 0, slots := 0, locals := 122 }
set_option maxHeartbeats 4000000 in
set_option maxRecDepth 100000 in
theorem c_X11_group (l : Launch) (E : XE) (K : Nat → Nat) (F : Nat → Nat → Nat) (G : XG) (a : Nat) (p0 : Int32) (p1 : Int32) (ha : K a = 13) (hR : RV (G.2.1 (F a 10))) (hM : RM (G.2.1 (F a 1)) (0)) (hB : RM (G.2.1 (F a 2)) 0) : Met l yX11_group (xw yX11_group cX11_group 6 (some .int)) rm_X11_group (va_Pc [.ref a, .int p0, .int p1] (XP E K F G)) (XQ E (fun v (u : XG) => ∃ r : Int32, v = .int r ∧ XFr [(a, 0), (a, 16), (a, 19)] [F a 15, F a 17, F a 18, F a 11, F a 13] [] G u ∧ (((p1.toInt < 0 ∨ 1 < p1.toInt) ∧ r.toInt = -1) ∨ ((0 ≤ p1.toInt ∧ p1.toInt ≤ 1) ∧ GrM (nth1 (if ((G.1 a 6).toInt) = 0 then [] else fuO (G.2.1 (F a 10)) (mw (G.2.1 (F a 1)) 0) (mw (G.2.1 (F a 2)) 0) 1)) (((if ((G.1 a 6).toInt) = 0 then [] else fuO (G.2.1 (F a 10)) (mw (G.2.1 (F a 1)) 0) (mw (G.2.1 (F a 2)) 0) 1).length : Nat) : Int) p0.toInt p1.toInt r.toInt))) (fun u H => TW E K F u H)) 0 0 (xA E) := by
  refine x_enter (by decide) (Nat.le_of_ble_eq_true rfl) ?_
  intro p e s m args below meth c Q S hr hlk hnm hQ hP ls hl
  obtain ⟨hz, hK, hT⟩ := hP
  obtain ⟨hx, hb, -, -, -⟩ := id S
  obtain ⟨H, hT, hS, hgo⟩ : ∃ H : Heap, TW E K F G H ∧ va_S (xA E) s.heap H [] ∧ H = s.heap := ⟨_, hT, va_S.rf, rfl⟩
  rw [← hgo]
  have hl : lv_has ls 6 [(0, .ref a), (1, .int p0), (2, .int p1)] := hl
  obtain ⟨hk9999, hj9999⟩ := fkX11_15 hT ha
  obtain ⟨hk9999a, hj9999a⟩ := fkX11_17 hT ha
  obtain ⟨hk9999b, hj9999b⟩ := fkX11_18 hT ha
  obtain ⟨hk9999c, hj9999c⟩ := fkX11_11 hT ha
  obtain ⟨hk9999d, hj9999d⟩ := fkX11_13 hT ha
  obtain ⟨hk9999e, hj9999e⟩ := fkX11_10 hT ha
  obtain ⟨hk9999f, hj9999f⟩ := fkX11_1 hT ha
  obtain ⟨hk9999g, hj9999g⟩ := fkX11_2 hT ha
  refine lv_aload_n hx hb dX11_group_0 rfl (lv_at hl 0 rfl) ?_
  refine lv_iconst (v := 0) hx hb dX11_group_1 (by decide) ?_
  refine pX11_0 (v := 0) S hK hT hS ha kf_X11_134 dX11_group_2 (fun H locs hT hS => ?_)
  obtain ⟨G2, hG2⟩ : ∃ GG : XG, GG = dput G a 0 0 := ⟨_, rfl⟩
  rw [← hG2] at hT
  refine lv_iload_n hx hb dX11_group_5 rfl (lv_at hl 1 rfl) ?_
  refine lv_iconst (v := (-1)) hx hb dX11_group_6 (by decide) ?_
  refine xi_clt (tgt := 20) hx hb (rfl : Int32.toInt p0 = p0.toInt) ((by decide) : Int32.toInt (-1) = (-1 : Int)) dX11_group_7 (by decide) (fun c7 => ?_) (fun c7 => ?_)
  · refine lv_iconst (v := (-1)) hx hb dX11_group_20 (by decide) ?_
    exact x_ri hx hb hr hlk hQ (Nat.le_of_ble_eq_true rfl) (Nat.le_of_ble_eq_true rfl) hS dX11_group_21 G2 ⟨_, rfl, (by rw [hG2]; exact XFr.dput XFr.rf (List.mem_of_getElem? (i := 0) rfl)), (by rw [((by decide) : Int32.toInt (-1) = (-1 : Int))] <;> exact (v_X11_group_21_1 (K := K) (F := F) a G p0 p1 ha c7))⟩ hT
  · refine lv_iload_n hx hb dX11_group_10 rfl (lv_at hl 2 rfl) ?_
    refine lv_i2l (v := p1.toInt64) hx hb dX11_group_11 rfl ?_
    refine lv_lconst (v := (0 : Int64)) hx hb dX11_group_12 (by decide) ?_
    refine lv_lconst (v := (1 : Int64)) hx hb dX11_group_13 (by decide) ?_
    refine x_clp (x_runS (As := [.long p1.toInt64, .long (0 : Int64), .long (1 : Int64)]) (rest := []) S (c_X11_in l E K F G2 H p1.toInt64 p1.toInt (0 : Int64) (0 : Int) (1 : Int64) (1 : Int) (xl_i2l (rfl : Int32.toInt p1 = p1.toInt)) (by decide) (by decide)) ms_X11_in km_X11_139 rfl rfl ⟨Nat.le_of_ble_eq_true rfl, Nat.le_of_ble_eq_true rfl⟩ hK (fun _ => XPh.blind) (fun U hU hW => XPh.at hK hz hS hT hU hW) rfl hl.1 (Nat.le_of_ble_eq_true rfl) dX11_group_14 ⟨Nat.le_of_ble_eq_true rfl, Nat.le_of_ble_eq_true rfl⟩) hS ?_
    rintro _ _ locs ⟨x14, rfl, b14, t14⟩ hS
    have t14 : (x14.toInt = 1 ∧ (0 : Int) ≤ p1.toInt ∧ p1.toInt ≤ (1 : Int)) ∨ (x14.toInt = 0 ∧ (p1.toInt < (0 : Int) ∨ (1 : Int) < p1.toInt)) := t14
    refine xi_zne (tgt := 22) hx hb (rfl : Int32.toInt x14 = x14.toInt) dX11_group_17 (by decide) (fun c17 => ?_) (fun c17 => ?_)
    · refine lv_aload_n hx hb dX11_group_22 rfl (lv_at hl 0 rfl) ?_
      refine x_cv0 (x_runV (b := a) (As := []) (rest := []) S (c_X11_findQueue l E K F G2 a ha (v_X11_group_23_2 (F := F) a G2 G hR (ld_c hG2)) (v_X11_group_23_3 (F := F) a G2 G hM hB (ld_c hG2)) (v_X11_group_23_4 (F := F) a G2 G hM hB (ld_c hG2))) mv_X11_findQueue km_X11_218 rfl rfl ⟨Nat.le_of_ble_eq_true rfl, Nat.le_of_ble_eq_true rfl⟩ (rc_13 hK hT ha) hK (fun _ => XP.blind) (fun U hU hW => XP.at hK hz hS hT hU hW) rfl hl.1 (Nat.le_of_ble_eq_true rfl) dX11_group_23 ⟨Nat.le_of_ble_eq_true rfl, Nat.le_of_ble_eq_true rfl⟩) hS ?_
      rintro G23 H locs ⟨hF23, t23, oq23, oq23a, oq23b⟩ hT hS
      have t23 : 0 ≤ ((G23.1 a 19).toInt) ∧ ((G23.1 a 19).toInt) ≤ 2388 := t23
      have oq23 : pL G23 F a = if ((G.1 a 6).toInt) = 0 then [] else fuO (G.2.1 (F a 10)) (mw (G.2.1 (F a 1)) 0) (mw (G.2.1 (F a 2)) 0) 1 := by simp only [(show G2.1 a 6 = G.1 a 6 from (ld_j hG2 (by decide))), (show G2.2.1 (F a 10) = G.2.1 (F a 10) from (ld_c hG2)), (show G2.2.1 (F a 1) = G.2.1 (F a 1) from (ld_c hG2)), (show G2.2.1 (F a 2) = G.2.1 (F a 2) from (ld_c hG2))] at oq23; exact oq23
      have oq23a : ((G.1 a 6).toInt) ≠ 0 → LSt (G.2.1 (F a 10)) (G23.2.1 (F a 11)) (mw (G.2.1 (F a 1)) 0) 12 ∧ LSt (G.2.1 (F a 10)) (G23.2.1 (F a 13)) (mw (G.2.1 (F a 2)) 0) 12 := by simp only [(show G2.1 a 6 = G.1 a 6 from (ld_j hG2 (by decide))), (show G2.2.1 (F a 10) = G.2.1 (F a 10) from (ld_c hG2)), (show G2.2.1 (F a 1) = G.2.1 (F a 1) from (ld_c hG2)), (show G2.2.1 (F a 2) = G.2.1 (F a 2) from (ld_c hG2))] at oq23a; exact oq23a
      have z26 : (stF (aI (G23.2.1 (F a 17))) 0) = 0 := stF_0 _
      refine lv_iconst (v := 0) hx hb dX11_group_26 (by decide) ?_
      refine lv_istore_n (lv' := [(3, .int 0), (0, .ref a), (1, .int p0), (2, .int p1)]) hx hb dX11_group_27 rfl hl (by decide) rfl (fun ls hl => ?_)
      refine lv_iconst (v := 0) hx hb dX11_group_28 (by decide) ?_
      refine lv_istore (lv' := [(4, .int 0), (3, .int 0), (0, .ref a), (1, .int p0), (2, .int p1)]) hx hb dX11_group_29 hl (by decide) rfl (fun ls hl => ?_)
      refine lv_iconst (v := 1) hx hb dX11_group_31 (by decide) ?_
      refine lv_istore (lv' := [(5, .int 1), (4, .int 0), (3, .int 0), (0, .ref a), (1, .int p0), (2, .int p1)]) hx hb dX11_group_32 hl (by decide) rfl (fun ls hl => ?_)
      have L34 : ∀ (N34 : Nat) (l3_34 : Int32) (l4_34 : Int32) (l5_34 : Int32) (H : Heap) (locs : List Loc) (ls : Array Slot), (∀ j : Int, l4_34.toInt ≤ j → j < l5_34.toInt → j < (G23.1 a 19).toInt → aI (G23.2.1 (F a 17)) j = aI (G23.2.1 (F a 17)) l4_34.toInt) → 1 ≤ l5_34.toInt ∧ l5_34.toInt ≤ ((G23.1 a 19).toInt) + 1 → 0 ≤ l4_34.toInt ∧ l4_34.toInt < l5_34.toInt → 0 ≤ l3_34.toInt ∧ l3_34.toInt ≤ l5_34.toInt → ((G23.1 a 19).toInt) ≤ 2388 → l3_34.toInt = (stF (aI (G23.2.1 (F a 17))) (l4_34.toInt)) → l4_34.toInt = ((G23.1 a 19).toInt) ∨ l4_34.toInt = 0 ∨ (aI (G23.2.1 (F a 17)) (l4_34.toInt)) ≠ (aI (G23.2.1 (F a 17)) (l4_34.toInt - 1)) → p0.toInt < 0 ∨ l3_34.toInt ≤ p0.toInt → l5_34.toInt ≤ ((G23.1 a 19).toInt) ∨ l4_34.toInt = ((G23.1 a 19).toInt) → l4_34.toInt ≤ ((G23.1 a 19).toInt) → 5000 - l5_34.toInt < ((N34 : Nat) : Int) → TW E K F G23 H → va_S (xA E) s.heap H locs → lv_has ls 6 [(0, .ref a), (1, .int p0), (2, .int p1), (3, .int l3_34), (4, .int l4_34), (5, .int l5_34)] → W p l e rm_X11_group s m args below meth c H locs 0 0 Q (F0 m 34 ls []) := by
        intro N34
        induction N34 with
        | zero =>
          intro l3_34 l4_34 l5_34 H locs ls rn I34_0 I34_1 I34_2 I34_3 I34_4 I34_5 I34_6 I34_7 I34_8 hm34
          exact absurd hm34 (z_X11_group_1 l5_34.toInt ((G23.1 a 19).toInt) I34_0 I34_3)
        | succ N34 ih34 =>
          intro l3_34 l4_34 l5_34 H locs ls rn I34_0 I34_1 I34_2 I34_3 I34_4 I34_5 I34_6 I34_7 I34_8 hm34 hT hS hl
          refine lv_iload hx hb dX11_group_34 (lv_at hl 5 rfl) ?_
          refine lv_aload_n hx hb dX11_group_36 rfl (lv_at hl 0 rfl) ?_
          refine gX11_19 S hK hT ha kf_X11_203 dX11_group_37 (v := (G23.1 a 19)) rfl (?_)
          refine xi_cgt (tgt := 107) hx hb (rfl : Int32.toInt l5_34 = l5_34.toInt) (rfl : Int32.toInt (G23.1 a 19) = ((G23.1 a 19).toInt)) dX11_group_40 (by decide) (fun c40 => ?_) (fun c40 => ?_)
          · have z107 : l4_34.toInt = ((G23.1 a 19).toInt) → (stF (aI (G23.2.1 (F a 17))) (l4_34.toInt)) = (stF (aI (G23.2.1 (F a 17))) ((G23.1 a 19).toInt)) := fun h9 => by rw [h9]
            refine lv_iload_n hx hb dX11_group_107 rfl (lv_at hl 1 rfl) ?_
            refine lv_iconst (v := (-1)) hx hb dX11_group_108 (by decide) ?_
            refine xi_cne (tgt := 116) hx hb (rfl : Int32.toInt p0 = p0.toInt) ((by decide) : Int32.toInt (-1) = (-1 : Int)) dX11_group_109 (by decide) (fun c109 => ?_) (fun c109 => ?_)
            · refine lv_iconst (v := (-1)) hx hb dX11_group_116 (by decide) ?_
              exact x_ri hx hb hr hlk hQ (Nat.le_of_ble_eq_true rfl) (Nat.le_of_ble_eq_true rfl) hS dX11_group_117 G23 ⟨_, rfl, (XFr.call (by rw [hG2]; exact XFr.dput XFr.rf (List.mem_of_getElem? (i := 0) rfl)) hF23 (xm1 1 rfl (xm1 2 rfl xm0)) (xm1 0 rfl (xm1 1 rfl (xm1 2 rfl (xm1 3 rfl (xm1 4 rfl xm0))))) xm0), (by rw [((by decide) : Int32.toInt (-1) = (-1 : Int))] <;> exact (v_X11_group_117_5 (K := K) (F := F) a G2 G G23 l4_34 l5_34 p0 x14 p1 l3_34 N34 ha oq23 oq23a oq23b c7 t14 c17 t23 z26 I34_0 I34_1 I34_2 I34_3 I34_4 I34_5 I34_6 I34_7 I34_8 hm34 c40 z107 c109))⟩ hT
            · refine lv_iload_n hx hb dX11_group_112 rfl (lv_at hl 3 rfl) ?_
              refine lv_goto (tgt := 117) hx hb dX11_group_113 (by decide) ?_
              exact x_ri hx hb hr hlk hQ (Nat.le_of_ble_eq_true rfl) (Nat.le_of_ble_eq_true rfl) hS dX11_group_117 G23 ⟨_, rfl, (XFr.call (by rw [hG2]; exact XFr.dput XFr.rf (List.mem_of_getElem? (i := 0) rfl)) hF23 (xm1 1 rfl (xm1 2 rfl xm0)) (xm1 0 rfl (xm1 1 rfl (xm1 2 rfl (xm1 3 rfl (xm1 4 rfl xm0))))) xm0), (v_X11_group_117_6 (K := K) (F := F) a G2 G G23 l4_34 l5_34 p0 x14 p1 l3_34 N34 ha oq23 oq23a oq23b c7 t14 c17 t23 z26 I34_0 I34_1 I34_2 I34_3 I34_4 I34_5 I34_6 I34_7 I34_8 hm34 c40 z107 c109)⟩ hT
          · refine lv_iload hx hb dX11_group_43 (lv_at hl 5 rfl) ?_
            refine lv_aload_n hx hb dX11_group_45 rfl (lv_at hl 0 rfl) ?_
            refine gX11_19 S hK hT ha kf_X11_203 dX11_group_46 (v := (G23.1 a 19)) rfl (?_)
            refine xi_ceq (tgt := 69) hx hb (rfl : Int32.toInt l5_34 = l5_34.toInt) (rfl : Int32.toInt (G23.1 a 19) = ((G23.1 a 19).toInt)) dX11_group_49 (by decide) (fun c49 => ?_) (fun c49 => ?_)
            · have z69 : (stF (aI (G23.2.1 (F a 17))) (l5_34.toInt)) = (stF (aI (G23.2.1 (F a 17))) (l4_34.toInt)) + 1 := stF_run (I34_1) (z_X11_group_3 l4_34.toInt l5_34.toInt ((G23.1 a 19).toInt) (aI (G23.2.1 (F a 17)) (l4_34.toInt - 1)) (aI (G23.2.1 (F a 17)) (l4_34.toInt)) I34_1 I34_5 c40) (fun j a1 a2 => rn j a1 a2 (Int.lt_of_lt_of_le a2 (z_X11_group_4 l5_34.toInt ((G23.1 a 19).toInt) c40)))
              have z69a : (aI (G23.2.1 (F a 17)) (l5_34.toInt - 1)) = (aI (G23.2.1 (F a 17)) (l4_34.toInt)) := rn _ (z_X11_group_5 l4_34.toInt l5_34.toInt I34_1) (z_X11_group_6 l5_34.toInt) (z_X11_group_7 l5_34.toInt ((G23.1 a 19).toInt) c40)
              refine lv_iload_n hx hb dX11_group_69 rfl (lv_at hl 3 rfl) ?_
              refine lv_iload_n hx hb dX11_group_70 rfl (lv_at hl 1 rfl) ?_
              refine xi_cne (tgt := 94) hx hb (rfl : Int32.toInt l3_34 = l3_34.toInt) (rfl : Int32.toInt p0 = p0.toInt) dX11_group_71 (by decide) (fun c71 => ?_) (fun c71 => ?_)
              · refine xi_iinc (n := 1) (lv' := fun z9 => [(3, .int z9), (0, .ref a), (1, .int p0), (2, .int p1), (4, .int l4_34), (5, .int l5_34)]) (k := 3) hx hb (rfl : Int32.toInt l3_34 = l3_34.toInt) (by decide) dX11_group_94 hl rfl (by decide) (fun _ => rfl) (fun x94 ls t94 hl => ?_)
                have e94 : x94.toInt = (l3_34.toInt + 1) := (z_X11_group_8 l3_34.toInt l5_34.toInt x94.toInt ((G23.1 a 19).toInt) t23 I34_2 c40 t94)
                have hl : lv_has ls 6 [(3, .int x94), (0, .ref a), (1, .int p0), (2, .int p1), (4, .int l4_34), (5, .int l5_34)] := hl
                refine lv_iload hx hb dX11_group_97 (lv_at hl 5 rfl) ?_
                refine lv_istore (lv' := [(4, .int l5_34), (3, .int x94), (0, .ref a), (1, .int p0), (2, .int p1), (5, .int l5_34)]) hx hb dX11_group_99 hl (by decide) rfl (fun ls hl => ?_)
                refine xi_iinc (n := 1) (lv' := fun z9 => [(5, .int z9), (4, .int l5_34), (3, .int x94), (0, .ref a), (1, .int p0), (2, .int p1)]) (k := 5) hx hb (rfl : Int32.toInt l5_34 = l5_34.toInt) (by decide) dX11_group_101 hl rfl (by decide) (fun _ => rfl) (fun x101 ls t101 hl => ?_)
                have e101 : x101.toInt = (l5_34.toInt + 1) := (z_X11_group_9 l5_34.toInt x101.toInt ((G23.1 a 19).toInt) t23 I34_0 t101)
                have hl : lv_has ls 6 [(5, .int x101), (4, .int l5_34), (3, .int x94), (0, .ref a), (1, .int p0), (2, .int p1)] := hl
                refine lv_goto (tgt := 34) hx hb dX11_group_104 (by decide) ?_
                exact ih34 x94 l5_34 x101 _ _ _ (by rw [(e101 : Int32.toInt x101 = (l5_34.toInt + 1))] <;> exact (v_X11_group_104_7 (K := K) (F := F) a G2 G G23 l4_34 l5_34 l3_34 p0 x14 p1 N34 ha oq23a oq23b rn c7 t14 c17 t23 z26 I34_0 I34_1 I34_2 I34_3 I34_4 I34_5 I34_6 I34_7 I34_8 hm34 c40 c49 z69 z69a c71)) (by rw [(e101 : Int32.toInt x101 = (l5_34.toInt + 1))] <;> exact (z_X11_group_10 l5_34.toInt ((G23.1 a 19).toInt) I34_0 c40)) (by rw [(e101 : Int32.toInt x101 = (l5_34.toInt + 1))] <;> exact (z_X11_group_11 l5_34.toInt ((G23.1 a 19).toInt) I34_0)) (by rw [(e94 : Int32.toInt x94 = (l3_34.toInt + 1)), (e101 : Int32.toInt x101 = (l5_34.toInt + 1))] <;> exact (z_X11_group_12 l3_34.toInt l5_34.toInt I34_2)) (z_X11_group_13 ((G23.1 a 19).toInt) t23) (by rw [(e94 : Int32.toInt x94 = (l3_34.toInt + 1))] <;> exact (z_X11_group_14 l3_34.toInt (stF (aI (G23.2.1 (F a 17))) (l4_34.toInt)) (stF (aI (G23.2.1 (F a 17))) (l5_34.toInt)) I34_4 z69)) (z_X11_group_15 l5_34.toInt ((G23.1 a 19).toInt) (aI (G23.2.1 (F a 17)) (l5_34.toInt - 1)) (aI (G23.2.1 (F a 17)) (l5_34.toInt)) c49) (by rw [(e94 : Int32.toInt x94 = (l3_34.toInt + 1))] <;> exact (z_X11_group_16 l3_34.toInt p0.toInt I34_6 c71)) (by rw [(e101 : Int32.toInt x101 = (l5_34.toInt + 1))] <;> exact (z_X11_group_17 l5_34.toInt ((G23.1 a 19).toInt) c40)) (z_X11_group_4 l5_34.toInt ((G23.1 a 19).toInt) c40) (by rw [(e101 : Int32.toInt x101 = (l5_34.toInt + 1))] <;> exact (z_X11_group_19 l5_34.toInt N34 hm34)) hT hS (lv_sub hl [3, 4, 5, 2, 1, 0] rfl)
              · refine lv_iload_n hx hb dX11_group_74 rfl (lv_at hl 2 rfl) ?_
                refine xi_zne (tgt := 88) hx hb (rfl : Int32.toInt p1 = p1.toInt) dX11_group_75 (by decide) (fun c75 => ?_) (fun c75 => ?_)
                · refine lv_iload hx hb dX11_group_88 (lv_at hl 5 rfl) ?_
                  refine lv_iload hx hb dX11_group_90 (lv_at hl 4 rfl) ?_
                  refine xi_isub hx hb (rfl : Int32.toInt l5_34 = l5_34.toInt) (rfl : Int32.toInt l4_34 = l4_34.toInt) dX11_group_92 (fun x92 t92 => ?_)
                  exact x_ri hx hb hr hlk hQ (Nat.le_of_ble_eq_true rfl) (Nat.le_of_ble_eq_true rfl) hS dX11_group_93 G23 ⟨_, rfl, (XFr.call (by rw [hG2]; exact XFr.dput XFr.rf (List.mem_of_getElem? (i := 0) rfl)) hF23 (xm1 1 rfl (xm1 2 rfl xm0)) (xm1 0 rfl (xm1 1 rfl (xm1 2 rfl (xm1 3 rfl (xm1 4 rfl xm0))))) xm0), (v_X11_group_93_8 (K := K) (F := F) a G2 G G23 l4_34 l5_34 p0 x14 p1 l3_34 N34 x92 ha oq23 oq23a oq23b rn c7 t14 c17 t23 z26 I34_0 I34_1 I34_2 I34_3 I34_4 I34_5 I34_6 I34_7 I34_8 hm34 c40 c49 z69 z69a c71 c75 t92)⟩ hT
                · refine lv_aload_n hx hb dX11_group_78 rfl (lv_at hl 0 rfl) ?_
                  refine gX11_17 S hK hT ha kf_X11_51 dX11_group_79 (fun _ _ => ?_)
                  refine lv_iload hx hb dX11_group_82 (lv_at hl 4 rfl) ?_
                  refine al_0 S hK hT hk9999a ar_43 (by decide) (z_X11_group_20 l4_34.toInt l5_34.toInt ((G23.1 a 19).toInt) t23 I34_1 c40) dX11_group_84 (fun x84 hv84 o84 => ?_)
                  have hv84 : x84.toInt = (aI (G23.2.1 (F a 17)) (l4_34.toInt)) := hv84.trans (by rw [(rfl : Int32.toInt l4_34 = l4_34.toInt)])
                  refine lv_goto (tgt := 93) hx hb dX11_group_85 (by decide) ?_
                  exact x_ri hx hb hr hlk hQ (Nat.le_of_ble_eq_true rfl) (Nat.le_of_ble_eq_true rfl) hS dX11_group_93 G23 ⟨_, rfl, (XFr.call (by rw [hG2]; exact XFr.dput XFr.rf (List.mem_of_getElem? (i := 0) rfl)) hF23 (xm1 1 rfl (xm1 2 rfl xm0)) (xm1 0 rfl (xm1 1 rfl (xm1 2 rfl (xm1 3 rfl (xm1 4 rfl xm0))))) xm0), (by rw [(hv84 : Int32.toInt x84 = (aI (G23.2.1 (F a 17)) (l4_34.toInt)))] <;> exact (v_X11_group_93_9 (K := K) (F := F) a G2 G G23 l4_34 l5_34 p0 x14 p1 l3_34 N34 ha oq23 oq23a oq23b rn c7 t14 c17 t23 z26 I34_0 I34_1 I34_2 I34_3 I34_4 I34_5 I34_6 I34_7 I34_8 hm34 c40 c49 z69 z69a c71 c75))⟩ hT
            · refine lv_aload_n hx hb dX11_group_52 rfl (lv_at hl 0 rfl) ?_
              refine gX11_17 S hK hT ha kf_X11_51 dX11_group_53 (fun _ _ => ?_)
              refine lv_iload hx hb dX11_group_56 (lv_at hl 5 rfl) ?_
              refine al_0 S hK hT hk9999a ar_43 (by decide) (z_X11_group_21 l5_34.toInt ((G23.1 a 19).toInt) t23 I34_0) dX11_group_58 (fun x58 hv58 o58 => ?_)
              have hv58 : x58.toInt = (aI (G23.2.1 (F a 17)) (l5_34.toInt)) := hv58.trans (by rw [(rfl : Int32.toInt l5_34 = l5_34.toInt)])
              refine lv_aload_n hx hb dX11_group_59 rfl (lv_at hl 0 rfl) ?_
              refine gX11_17 S hK hT ha kf_X11_51 dX11_group_60 (fun _ _ => ?_)
              refine lv_iload hx hb dX11_group_63 (lv_at hl 4 rfl) ?_
              refine al_0 S hK hT hk9999a ar_43 (by decide) (z_X11_group_20 l4_34.toInt l5_34.toInt ((G23.1 a 19).toInt) t23 I34_1 c40) dX11_group_65 (fun x65 hv65 o65 => ?_)
              have hv65 : x65.toInt = (aI (G23.2.1 (F a 17)) (l4_34.toInt)) := hv65.trans (by rw [(rfl : Int32.toInt l4_34 = l4_34.toInt)])
              refine xi_ceq (tgt := 101) hx hb (hv58 : Int32.toInt x58 = (aI (G23.2.1 (F a 17)) (l5_34.toInt))) (hv65 : Int32.toInt x65 = (aI (G23.2.1 (F a 17)) (l4_34.toInt))) dX11_group_66 (by decide) (fun c66 => ?_) (fun c66 => ?_)
              · refine xi_iinc (n := 1) (lv' := fun z9 => [(5, .int z9), (0, .ref a), (1, .int p0), (2, .int p1), (3, .int l3_34), (4, .int l4_34)]) (k := 5) hx hb (rfl : Int32.toInt l5_34 = l5_34.toInt) (by decide) dX11_group_101 hl rfl (by decide) (fun _ => rfl) (fun x101 ls t101 hl => ?_)
                have e101 : x101.toInt = (l5_34.toInt + 1) := (z_X11_group_9 l5_34.toInt x101.toInt ((G23.1 a 19).toInt) t23 I34_0 t101)
                have hl : lv_has ls 6 [(5, .int x101), (0, .ref a), (1, .int p0), (2, .int p1), (3, .int l3_34), (4, .int l4_34)] := hl
                refine lv_goto (tgt := 34) hx hb dX11_group_104 (by decide) ?_
                exact ih34 l3_34 l4_34 x101 _ _ _ (by rw [(e101 : Int32.toInt x101 = (l5_34.toInt + 1))] <;> exact (v_X11_group_104_10 (K := K) (F := F) a G2 G G23 l4_34 l5_34 p0 x14 p1 l3_34 N34 ha oq23a oq23b rn c7 t14 c17 t23 z26 I34_0 I34_1 I34_2 I34_3 I34_4 I34_5 I34_6 I34_7 I34_8 hm34 c40 c49 c66)) (by rw [(e101 : Int32.toInt x101 = (l5_34.toInt + 1))] <;> exact (z_X11_group_10 l5_34.toInt ((G23.1 a 19).toInt) I34_0 c40)) (by rw [(e101 : Int32.toInt x101 = (l5_34.toInt + 1))] <;> exact (z_X11_group_25 l4_34.toInt l5_34.toInt I34_1)) (by rw [(e101 : Int32.toInt x101 = (l5_34.toInt + 1))] <;> exact (z_X11_group_26 l3_34.toInt l5_34.toInt I34_2)) (z_X11_group_13 ((G23.1 a 19).toInt) t23) (I34_4) (I34_5) (I34_6) (by rw [(e101 : Int32.toInt x101 = (l5_34.toInt + 1))] <;> exact (z_X11_group_31 l4_34.toInt l5_34.toInt ((G23.1 a 19).toInt) c40 c49)) (I34_8) (by rw [(e101 : Int32.toInt x101 = (l5_34.toInt + 1))] <;> exact (z_X11_group_19 l5_34.toInt N34 hm34)) hT hS (lv_sub hl [1, 2, 3, 4, 5, 0] rfl)
              · have z69 : (stF (aI (G23.2.1 (F a 17))) (l5_34.toInt)) = (stF (aI (G23.2.1 (F a 17))) (l4_34.toInt)) + 1 := stF_run (I34_1) (z_X11_group_3 l4_34.toInt l5_34.toInt ((G23.1 a 19).toInt) (aI (G23.2.1 (F a 17)) (l4_34.toInt - 1)) (aI (G23.2.1 (F a 17)) (l4_34.toInt)) I34_1 I34_5 c40) (fun j a1 a2 => rn j a1 a2 (Int.lt_of_lt_of_le a2 (z_X11_group_4 l5_34.toInt ((G23.1 a 19).toInt) c40)))
                have z69a : (aI (G23.2.1 (F a 17)) (l5_34.toInt - 1)) = (aI (G23.2.1 (F a 17)) (l4_34.toInt)) := rn _ (z_X11_group_5 l4_34.toInt l5_34.toInt I34_1) (z_X11_group_6 l5_34.toInt) (z_X11_group_7 l5_34.toInt ((G23.1 a 19).toInt) c40)
                refine lv_iload_n hx hb dX11_group_69 rfl (lv_at hl 3 rfl) ?_
                refine lv_iload_n hx hb dX11_group_70 rfl (lv_at hl 1 rfl) ?_
                refine xi_cne (tgt := 94) hx hb (rfl : Int32.toInt l3_34 = l3_34.toInt) (rfl : Int32.toInt p0 = p0.toInt) dX11_group_71 (by decide) (fun c71 => ?_) (fun c71 => ?_)
                · refine xi_iinc (n := 1) (lv' := fun z9 => [(3, .int z9), (0, .ref a), (1, .int p0), (2, .int p1), (4, .int l4_34), (5, .int l5_34)]) (k := 3) hx hb (rfl : Int32.toInt l3_34 = l3_34.toInt) (by decide) dX11_group_94 hl rfl (by decide) (fun _ => rfl) (fun x94 ls t94 hl => ?_)
                  have e94 : x94.toInt = (l3_34.toInt + 1) := (z_X11_group_8 l3_34.toInt l5_34.toInt x94.toInt ((G23.1 a 19).toInt) t23 I34_2 c40 t94)
                  have hl : lv_has ls 6 [(3, .int x94), (0, .ref a), (1, .int p0), (2, .int p1), (4, .int l4_34), (5, .int l5_34)] := hl
                  refine lv_iload hx hb dX11_group_97 (lv_at hl 5 rfl) ?_
                  refine lv_istore (lv' := [(4, .int l5_34), (3, .int x94), (0, .ref a), (1, .int p0), (2, .int p1), (5, .int l5_34)]) hx hb dX11_group_99 hl (by decide) rfl (fun ls hl => ?_)
                  refine xi_iinc (n := 1) (lv' := fun z9 => [(5, .int z9), (4, .int l5_34), (3, .int x94), (0, .ref a), (1, .int p0), (2, .int p1)]) (k := 5) hx hb (rfl : Int32.toInt l5_34 = l5_34.toInt) (by decide) dX11_group_101 hl rfl (by decide) (fun _ => rfl) (fun x101 ls t101 hl => ?_)
                  have e101 : x101.toInt = (l5_34.toInt + 1) := (z_X11_group_9 l5_34.toInt x101.toInt ((G23.1 a 19).toInt) t23 I34_0 t101)
                  have hl : lv_has ls 6 [(5, .int x101), (4, .int l5_34), (3, .int x94), (0, .ref a), (1, .int p0), (2, .int p1)] := hl
                  refine lv_goto (tgt := 34) hx hb dX11_group_104 (by decide) ?_
                  exact ih34 x94 l5_34 x101 _ _ _ (by rw [(e101 : Int32.toInt x101 = (l5_34.toInt + 1))] <;> exact (v_X11_group_104_11 (K := K) (F := F) a G2 G G23 l4_34 l5_34 l3_34 p0 x14 p1 N34 ha oq23a oq23b rn c7 t14 c17 t23 z26 I34_0 I34_1 I34_2 I34_3 I34_4 I34_5 I34_6 I34_7 I34_8 hm34 c40 c49 c66 z69 z69a c71)) (by rw [(e101 : Int32.toInt x101 = (l5_34.toInt + 1))] <;> exact (z_X11_group_10 l5_34.toInt ((G23.1 a 19).toInt) I34_0 c40)) (by rw [(e101 : Int32.toInt x101 = (l5_34.toInt + 1))] <;> exact (z_X11_group_11 l5_34.toInt ((G23.1 a 19).toInt) I34_0)) (by rw [(e94 : Int32.toInt x94 = (l3_34.toInt + 1)), (e101 : Int32.toInt x101 = (l5_34.toInt + 1))] <;> exact (z_X11_group_12 l3_34.toInt l5_34.toInt I34_2)) (z_X11_group_13 ((G23.1 a 19).toInt) t23) (by rw [(e94 : Int32.toInt x94 = (l3_34.toInt + 1))] <;> exact (z_X11_group_14 l3_34.toInt (stF (aI (G23.2.1 (F a 17))) (l4_34.toInt)) (stF (aI (G23.2.1 (F a 17))) (l5_34.toInt)) I34_4 z69)) (z_X11_group_47 l5_34.toInt ((G23.1 a 19).toInt) (aI (G23.2.1 (F a 17)) (l4_34.toInt)) (aI (G23.2.1 (F a 17)) (l5_34.toInt - 1)) (aI (G23.2.1 (F a 17)) (l5_34.toInt)) c66 z69a) (by rw [(e94 : Int32.toInt x94 = (l3_34.toInt + 1))] <;> exact (z_X11_group_16 l3_34.toInt p0.toInt I34_6 c71)) (by rw [(e101 : Int32.toInt x101 = (l5_34.toInt + 1))] <;> exact (z_X11_group_17 l5_34.toInt ((G23.1 a 19).toInt) c40)) (z_X11_group_4 l5_34.toInt ((G23.1 a 19).toInt) c40) (by rw [(e101 : Int32.toInt x101 = (l5_34.toInt + 1))] <;> exact (z_X11_group_19 l5_34.toInt N34 hm34)) hT hS (lv_sub hl [3, 4, 5, 2, 1, 0] rfl)
                · refine lv_iload_n hx hb dX11_group_74 rfl (lv_at hl 2 rfl) ?_
                  refine xi_zne (tgt := 88) hx hb (rfl : Int32.toInt p1 = p1.toInt) dX11_group_75 (by decide) (fun c75 => ?_) (fun c75 => ?_)
                  · refine lv_iload hx hb dX11_group_88 (lv_at hl 5 rfl) ?_
                    refine lv_iload hx hb dX11_group_90 (lv_at hl 4 rfl) ?_
                    refine xi_isub hx hb (rfl : Int32.toInt l5_34 = l5_34.toInt) (rfl : Int32.toInt l4_34 = l4_34.toInt) dX11_group_92 (fun x92 t92 => ?_)
                    exact x_ri hx hb hr hlk hQ (Nat.le_of_ble_eq_true rfl) (Nat.le_of_ble_eq_true rfl) hS dX11_group_93 G23 ⟨_, rfl, (XFr.call (by rw [hG2]; exact XFr.dput XFr.rf (List.mem_of_getElem? (i := 0) rfl)) hF23 (xm1 1 rfl (xm1 2 rfl xm0)) (xm1 0 rfl (xm1 1 rfl (xm1 2 rfl (xm1 3 rfl (xm1 4 rfl xm0))))) xm0), (v_X11_group_93_12 (K := K) (F := F) a G2 G G23 l4_34 l5_34 p0 x14 p1 l3_34 N34 x92 ha oq23 oq23a oq23b rn c7 t14 c17 t23 z26 I34_0 I34_1 I34_2 I34_3 I34_4 I34_5 I34_6 I34_7 I34_8 hm34 c40 c49 c66 z69 z69a c71 c75 t92)⟩ hT
                  · refine lv_aload_n hx hb dX11_group_78 rfl (lv_at hl 0 rfl) ?_
                    refine gX11_17 S hK hT ha kf_X11_51 dX11_group_79 (fun _ _ => ?_)
                    refine lv_iload hx hb dX11_group_82 (lv_at hl 4 rfl) ?_
                    refine al_0 S hK hT hk9999a ar_43 (by decide) (z_X11_group_20 l4_34.toInt l5_34.toInt ((G23.1 a 19).toInt) t23 I34_1 c40) dX11_group_84 (fun x84 hv84 o84 => ?_)
                    have hv84 : x84.toInt = (aI (G23.2.1 (F a 17)) (l4_34.toInt)) := hv84.trans (by rw [(rfl : Int32.toInt l4_34 = l4_34.toInt)])
                    refine lv_goto (tgt := 93) hx hb dX11_group_85 (by decide) ?_
                    exact x_ri hx hb hr hlk hQ (Nat.le_of_ble_eq_true rfl) (Nat.le_of_ble_eq_true rfl) hS dX11_group_93 G23 ⟨_, rfl, (XFr.call (by rw [hG2]; exact XFr.dput XFr.rf (List.mem_of_getElem? (i := 0) rfl)) hF23 (xm1 1 rfl (xm1 2 rfl xm0)) (xm1 0 rfl (xm1 1 rfl (xm1 2 rfl (xm1 3 rfl (xm1 4 rfl xm0))))) xm0), (by rw [(hv84 : Int32.toInt x84 = (aI (G23.2.1 (F a 17)) (l4_34.toInt)))] <;> exact (v_X11_group_93_13 (K := K) (F := F) a G2 G G23 l4_34 l5_34 p0 x14 p1 l3_34 N34 ha oq23 oq23a oq23b rn c7 t14 c17 t23 z26 I34_0 I34_1 I34_2 I34_3 I34_4 I34_5 I34_6 I34_7 I34_8 hm34 c40 c49 c66 z69 z69a c71 c75))⟩ hT
      exact L34 4294967297 0 0 1 _ _ _ (v_X11_group_32_14 (K := K) (F := F) a G2 G G23 p0 x14 p1 ha oq23a oq23b c7 t14 c17 t23 z26) (z_X11_group_53 ((G23.1 a 19).toInt) t23) (by decide) (by decide) (z_X11_group_13 ((G23.1 a 19).toInt) t23) (z_X11_group_55 (stF (aI (G23.2.1 (F a 17))) 0) z26) (z_X11_group_56 ((G23.1 a 19).toInt) (aI (G23.2.1 (F a 17)) (0 - 1)) (aI (G23.2.1 (F a 17)) 0)) (z_X11_group_57 p0.toInt) (z_X11_group_58 ((G23.1 a 19).toInt) t23) (z_X11_group_59 ((G23.1 a 19).toInt) t23) (by decide) hT hS (lv_sub hl [3, 4, 5, 2, 1, 0] rfl)
    · refine lv_iconst (v := (-1)) hx hb dX11_group_20 (by decide) ?_
      exact x_ri hx hb hr hlk hQ (Nat.le_of_ble_eq_true rfl) (Nat.le_of_ble_eq_true rfl) hS dX11_group_21 G2 ⟨_, rfl, (by rw [hG2]; exact XFr.dput XFr.rf (List.mem_of_getElem? (i := 0) rfl)), (by rw [((by decide) : Int32.toInt (-1) = (-1 : Int))] <;> exact (v_X11_group_21_15 (K := K) (F := F) a G p0 x14 p1 ha c7 t14 c17))⟩ hT

theorem z_X11_all_1 (a0 : Int) (a1 : Int) (h0 : 0 ≤ a0 ∧ a0 ≤ a1) (h1 : 0 ≤ a1 ∧ a1 ≤ 12) : ¬ (100 - a0 < ((0 : Nat) : Int)) := by omega
theorem z_X11_all_2 (a0 : Int) (a1 : Int) (h0 : 0 ≤ a0 ∧ a0 ≤ a1) (h1 : ¬ (a1 ≤ a0)) : 0 ≤ a0 ∧ a0 < a1 := by omega
theorem z_X11_all_3 (a0 : Int) (a1 : Int) (h0 : 0 ≤ a1 ∧ a1 ≤ 12) (h1 : 0 ≤ a0 ∧ a0 ≤ a1) (h2 : ¬ (a1 ≤ a0)) : 0 ≤ a0 ∧ a0 < ((12 : Nat) : Int) := by omega
theorem z_X11_all_4 (a0 : Int) (h0 : 0 ≤ a0) (h1 : a0 ≤ 11) : 0 ≤ a0 ∧ a0 ≤ 11 := by omega
theorem z_X11_all_8 (a0 : Int) (a1 : Int) (a2 : Int) (h0 : 0 ≤ a2 ∧ a2 ≤ 12) (h1 : 0 ≤ a0 ∧ a0 ≤ a2) (h2 : a1 = (a0 + 1) ∨ (a0 + 1) < -2147483648 ∨ 2147483648 ≤ (a0 + 1)) : a1 = (a0 + 1) := by omega
theorem z_X11_all_9 (a0 : Int) (a1 : Int) (h0 : 0 ≤ a0 ∧ a0 ≤ a1) (h1 : ¬ (a1 ≤ a0)) : 0 ≤ (a0 + 1) ∧ (a0 + 1) ≤ a1 := by omega
theorem z_X11_all_10 (a0 : Int) (a1 : Int) (a2 : Int) (a3 : Int) (a4 : Int) (a5 : Int) (h0 : ((a3 = 2 ∨ a3 = 4 ∨ a3 = 5) ∧ a4 = 0 ∧ a5 = 29) ∨ (¬ (a3 = 2 ∨ a3 = 4 ∨ a3 = 5) ∧ a4 = -99 ∧ a5 = 99)) (h1 : a4 ≤ a2 ∧ a2 ≤ a5 + 1) (h2 : 0 ≤ a0 ∧ a0 ≤ 199 * a1 + (a2 - a4)) : 0 ≤ a0 ∧ a0 ≤ 199 * (a1 + 1) := by omega
theorem z_X11_all_11 (a0 : Int) (a1 : Nat) (h0 : 100 - a0 < ((a1 + 1 : Nat) : Int)) : 100 - (a0 + 1) < ((a1 : Nat) : Int) := by omega
theorem z_X11_all_15 (a0 : Int) (a1 : Int) (a2 : Int) (h0 : a1 ≤ a0 ∧ a0 ≤ a2 + 1) (h1 : ¬ (a2 < a0)) : a1 ≤ a0 ∧ a0 ≤ a2 := by omega
theorem z_X11_all_16 (a0 : Int) (a1 : Int) (a2 : Int) (a3 : Int) (a4 : Int) (h0 : ((a2 = 2 ∨ a2 = 4 ∨ a2 = 5) ∧ a3 = 0 ∧ a4 = 29) ∨ (¬ (a2 = 2 ∨ a2 = 4 ∨ a2 = 5) ∧ a3 = -99 ∧ a4 = 99)) (h1 : ¬ (a4 < a0)) (h2 : a1 = (a0 + 1) ∨ (a0 + 1) < -2147483648 ∨ 2147483648 ≤ (a0 + 1)) (h3 : -2147483648 ≤ a0 ∧ a0 < 2147483648) : a1 = (a0 + 1) := by omega
theorem z_X11_all_17 (a0 : Int) (a1 : Int) (a2 : Int) (h0 : a1 ≤ a0 ∧ a0 ≤ a2 + 1) (h1 : ¬ (a2 < a0)) : a1 ≤ (a0 + 1) ∧ (a0 + 1) ≤ a2 + 1 := by omega
theorem z_X11_all_18 (a0 : Int) (a1 : Int) (a2 : Int) (a3 : Int) (h0 : 0 ≤ a0 ∧ a0 ≤ 199 * a1 + (a2 - a3)) : 0 ≤ a0 ∧ a0 ≤ 199 * a1 + ((a2 + 1) - a3) := by omega
theorem z_X11_all_20 (a0 : Int) (a1 : Int) (a2 : Int) (a3 : Int) (a4 : Int) (a5 : Int) (a6 : Int) (a7 : Int) (h0 : 0 ≤ a4 ∧ a4 ≤ 12) (h1 : ¬ (a4 ≤ a1)) (h2 : ((a5 = 2 ∨ a5 = 4 ∨ a5 = 5) ∧ a6 = 0 ∧ a7 = 29) ∨ (¬ (a5 = 2 ∨ a5 = 4 ∨ a5 = 5) ∧ a6 = -99 ∧ a7 = 99)) (h3 : 0 ≤ a0 ∧ a0 ≤ 199 * a1 + (a2 - a6)) (h4 : ¬ (a7 < a2)) (h5 : a3 = (a0 + 1) ∨ (a0 + 1) < -2147483648 ∨ 2147483648 ≤ (a0 + 1)) : a3 = (a0 + 1) := by omega
theorem z_X11_all_23 (a0 : Int) (a1 : Int) (a2 : Int) (a3 : Int) (h0 : 0 ≤ a0 ∧ a0 ≤ 199 * a1 + (a2 - a3)) : 0 ≤ (a0 + 1) ∧ (a0 + 1) ≤ 199 * a1 + ((a2 + 1) - a3) := by omega
theorem z_X11_all_25 (a0 : Int) (a1 : Int) (h0 : a0 ≠ 0) (h1 : ¬ (a0 ≠ 0)) : a1 = (a0 + 1) := by omega
theorem z_X11_all_26 (a0 : Int) (a1 : Int) (a2 : Int) (h0 : a0 ≠ 0) (h1 : ¬ (a0 ≠ 0)) : a2 = (a1 + 1) := by omega
theorem z_X11_all_31 (a0 : Int) (a1 : Int) (h0 : ¬ (a0 ≠ 0)) (h1 : a0 ≠ 0) : a1 = (a0 + 1) := by omega
theorem z_X11_all_32 (a0 : Int) (a1 : Int) (a2 : Int) (h0 : ¬ (a0 ≠ 0)) (h1 : a0 ≠ 0) : a2 = (a1 + 1) := by omega
theorem z_X11_all_36 (a0 : Int) (a1 : Int) (h0 : ¬ (a0 ≠ 0)) (h1 : a1 = (a0 + 1) ∨ (a0 + 1) < -2147483648 ∨ 2147483648 ≤ (a0 + 1)) : a1 = (a0 + 1) := by omega
theorem z_X11_all_41 (a0 : Int) (a1 : Int) (a2 : Int) (h0 : ((a0 = 2 ∨ a0 = 4 ∨ a0 = 5) ∧ a1 = 0 ∧ a2 = 29) ∨ (¬ (a0 = 2 ∨ a0 = 4 ∨ a0 = 5) ∧ a1 = -99 ∧ a2 = 99)) : a1 ≤ a1 ∧ a1 ≤ a2 + 1 := by omega
theorem z_X11_all_42 (a0 : Int) (a1 : Int) (a2 : Int) (h0 : 0 ≤ a0 ∧ a0 ≤ 199 * a1) : 0 ≤ a0 ∧ a0 ≤ 199 * a1 + (a2 - a2) := by omega
theorem z_X11_all_43 (a0 : Int) (a1 : Int) (a2 : Int) (h0 : ((a0 = 2 ∨ a0 = 4 ∨ a0 = 5) ∧ a1 = 0 ∧ a2 = 29) ∨ (¬ (a0 = 2 ∨ a0 = 4 ∨ a0 = 5) ∧ a1 = -99 ∧ a2 = 99)) : 2147483648 - a1 < ((4294967297 : Nat) : Int) := by omega
theorem z_X11_all_44 (a0 : Int) (h0 : 0 ≤ a0 ∧ a0 ≤ 12) : 0 ≤ (0 : Int) ∧ (0 : Int) ≤ a0 := by omega
abbrev rm_X11_all : Room := { frames := 4, cells := 0, slots := 0, locals := 104 }
set_option maxHeartbeats 4000000 in
set_option maxRecDepth 100000 in
theorem c_X11_all (l : Launch) (E : XE) (K : Nat → Nat) (F : Nat → Nat → Nat) (G : XG) (a : Nat) (p0 : Int32) (ha : K a = 13) (hR : RV (G.2.1 (F a 10))) (hM : RM (G.2.1 (F a 1)) (0)) : Met l yX11_all (xw yX11_all cX11_all 7 (some .int)) rm_X11_all (va_Pc [.ref a, .int p0] (XP E K F G)) (XQ E (fun v (u : XG) => ∃ r : Int32, v = .int r ∧ XFr [(a, 0), (a, 16)] [F a 15] [] G u ∧ ((¬ (0 ≤ p0.toInt ∧ p0.toInt ≤ 2) ∧ r.toInt = -2147483648) ∨ ((0 ≤ p0.toInt ∧ p0.toInt ≤ 2) ∧ r.toInt = alS p0.toInt (faO (G.2.1 (F a 10)) (mw (G.2.1 (F a 1)) 0))))) (fun u H => TW E K F u H)) 0 0 (xA E) := by
  refine x_enter (by decide) (Nat.le_of_ble_eq_true rfl) ?_
  intro p e s m args below meth c Q S hr hlk hnm hQ hP ls hl
  obtain ⟨hz, hK, hT⟩ := hP
  obtain ⟨hx, hb, -, -, -⟩ := id S
  obtain ⟨H, hT, hS, hgo⟩ : ∃ H : Heap, TW E K F G H ∧ va_S (xA E) s.heap H [] ∧ H = s.heap := ⟨_, hT, va_S.rf, rfl⟩
  rw [← hgo]
  have hl : lv_has ls 7 [(0, .ref a), (1, .int p0)] := hl
  obtain ⟨hk9999, hj9999⟩ := fkX11_15 hT ha
  obtain ⟨hk9999a, hj9999a⟩ := fkX11_10 hT ha
  obtain ⟨hk9999b, hj9999b⟩ := fkX11_1 hT ha
  refine lv_aload_n hx hb dX11_all_0 rfl (lv_at hl 0 rfl) ?_
  refine lv_iconst (v := 0) hx hb dX11_all_1 (by decide) ?_
  refine pX11_0 (v := 0) S hK hT hS ha kf_X11_134 dX11_all_2 (fun H locs hT hS => ?_)
  obtain ⟨G2, hG2⟩ : ∃ GG : XG, GG = dput G a 0 0 := ⟨_, rfl⟩
  rw [← hG2] at hT
  refine lv_iload_n hx hb dX11_all_5 rfl (lv_at hl 1 rfl) ?_
  refine lv_i2l (v := p0.toInt64) hx hb dX11_all_6 rfl ?_
  refine lv_lconst (v := (0 : Int64)) hx hb dX11_all_7 (by decide) ?_
  refine lv_ldc2 (v := 2) hx hb S.2.2.2.1 (S.2.2.2.2 _ (List.mem_cons_of_mem _ kc_X11_137)) dX11_all_8 ?_
  refine x_clp (x_runS (As := [.long p0.toInt64, .long (0 : Int64), .long (2 : Int64)]) (rest := []) S (c_X11_in l E K F G2 H p0.toInt64 p0.toInt (0 : Int64) (0 : Int) (2 : Int64) (2 : Int) (xl_i2l (rfl : Int32.toInt p0 = p0.toInt)) (by decide) (by decide)) ms_X11_in km_X11_139 rfl rfl ⟨Nat.le_of_ble_eq_true rfl, Nat.le_of_ble_eq_true rfl⟩ hK (fun _ => XPh.blind) (fun U hU hW => XPh.at hK hz hS hT hU hW) rfl hl.1 (Nat.le_of_ble_eq_true rfl) dX11_all_11 ⟨Nat.le_of_ble_eq_true rfl, Nat.le_of_ble_eq_true rfl⟩) hS ?_
  rintro _ _ locs ⟨x11, rfl, b11, t11⟩ hS
  have t11 : (x11.toInt = 1 ∧ (0 : Int) ≤ p0.toInt ∧ p0.toInt ≤ (2 : Int)) ∨ (x11.toInt = 0 ∧ (p0.toInt < (0 : Int) ∨ (2 : Int) < p0.toInt)) := t11
  refine xi_zne (tgt := 20) hx hb (rfl : Int32.toInt x11 = x11.toInt) dX11_all_14 (by decide) (fun c14 => ?_) (fun c14 => ?_)
  · refine lv_aload_n hx hb dX11_all_20 rfl (lv_at hl 0 rfl) ?_
    refine x_cv0 (x_runV (b := a) (As := []) (rest := []) S (c_X11_layOrder l E K F G2 a ha (v_X11_all_21_1 (F := F) a G2 G hR (ld_c hG2))) mv_X11_layOrder km_X11_200 rfl rfl ⟨Nat.le_of_ble_eq_true rfl, Nat.le_of_ble_eq_true rfl⟩ (rc_13 hK hT ha) hK (fun _ => XP.blind) (fun U hU hW => XP.at hK hz hS hT hU hW) rfl hl.1 (Nat.le_of_ble_eq_true rfl) dX11_all_21 ⟨Nat.le_of_ble_eq_true rfl, Nat.le_of_ble_eq_true rfl⟩) hS ?_
    rintro G21 H locs ⟨hF21, oq21, oq21a⟩ hT hS
    have oq21 : ORm (G.2.1 (F a 10)) (G21.2.1 (F a 15)) ((G21.1 a 16).toInt) 12 := by simp only [(show G2.2.1 (F a 10) = G.2.1 (F a 10) from (ld_c hG2))] at oq21; exact oq21
    have z24 : 0 ≤ ((G21.1 a 16).toInt) ∧ ((G21.1 a 16).toInt) ≤ 12 := by have h9 := ordN_le (prM (G.2.1 (F a 10))) (rkM (G.2.1 (F a 10))) 12; rw [oq21.1]; omega
    refine lv_iconst (v := 0) hx hb dX11_all_24 (by decide) ?_
    refine lv_istore_n (lv' := [(2, .int 0), (0, .ref a), (1, .int p0)]) hx hb dX11_all_25 rfl hl (by decide) rfl (fun ls hl => ?_)
    refine lv_ldc (v := (-2147483648)) hx hb S.2.2.2.1 (S.2.2.2.2 _ (List.mem_cons_of_mem _ kc_X11_57)) dX11_all_26 ?_
    refine lv_istore_n (lv' := [(3, .int (-2147483648)), (2, .int 0), (0, .ref a), (1, .int p0)]) hx hb dX11_all_28 rfl hl (by decide) rfl (fun ls hl => ?_)
    refine lv_ldc (v := (-2147483648)) hx hb S.2.2.2.1 (S.2.2.2.2 _ (List.mem_cons_of_mem _ kc_X11_57)) dX11_all_29 ?_
    refine lv_istore (lv' := [(4, .int (-2147483648)), (3, .int (-2147483648)), (2, .int 0), (0, .ref a), (1, .int p0)]) hx hb dX11_all_31 hl (by decide) rfl (fun ls hl => ?_)
    refine lv_iconst (v := 0) hx hb dX11_all_33 (by decide) ?_
    refine lv_istore (lv' := [(5, .int 0), (4, .int (-2147483648)), (3, .int (-2147483648)), (2, .int 0), (0, .ref a), (1, .int p0)]) hx hb dX11_all_34 hl (by decide) rfl (fun ls hl => ?_)
    have L36 : ∀ (N36 : Nat) (l2_36 : Int32) (l3_36 : Int32) (l4_36 : Int32) (l5_36 : Int32) (H : Heap) (locs : List Loc) (ls : Array Slot), TrA l2_36.toInt l3_36.toInt l4_36.toInt (faL (G.2.1 (F a 10)) (mw (G.2.1 (F a 1)) 0) (ordN (prM (G.2.1 (F a 10))) (rkM (G.2.1 (F a 10))) 12).2 (l5_36.toInt).toNat) → 0 ≤ l5_36.toInt ∧ l5_36.toInt ≤ ((G21.1 a 16).toInt) → 0 ≤ l2_36.toInt ∧ l2_36.toInt ≤ 199 * l5_36.toInt → 100 - l5_36.toInt < ((N36 : Nat) : Int) → TW E K F G21 H → va_S (xA E) s.heap H locs → lv_has ls 7 [(0, .ref a), (1, .int p0), (2, .int l2_36), (3, .int l3_36), (4, .int l4_36), (5, .int l5_36)] → W p l e rm_X11_all s m args below meth c H locs 0 0 Q (F0 m 36 ls []) := by
      intro N36
      induction N36 with
      | zero =>
        intro l2_36 l3_36 l4_36 l5_36 H locs ls pa I36_0 I36_1 hm36
        exact absurd hm36 (z_X11_all_1 l5_36.toInt ((G21.1 a 16).toInt) I36_0 z24)
      | succ N36 ih36 =>
        intro l2_36 l3_36 l4_36 l5_36 H locs ls pa I36_0 I36_1 hm36 hT hS hl
        refine lv_iload hx hb dX11_all_36 (lv_at hl 5 rfl) ?_
        refine lv_aload_n hx hb dX11_all_38 rfl (lv_at hl 0 rfl) ?_
        refine gX11_16 S hK hT ha kf_X11_197 dX11_all_39 (v := (G21.1 a 16)) rfl (?_)
        refine xi_cge (tgt := 139) hx hb (rfl : Int32.toInt l5_36 = l5_36.toInt) (rfl : Int32.toInt (G21.1 a 16) = ((G21.1 a 16).toInt)) dX11_all_42 (by decide) (fun c42 => ?_) (fun c42 => ?_)
        · refine lv_iload_n hx hb dX11_all_139 rfl (lv_at hl 1 rfl) ?_
          refine xi_zne (tgt := 147) hx hb (rfl : Int32.toInt p0 = p0.toInt) dX11_all_140 (by decide) (fun c140 => ?_) (fun c140 => ?_)
          · refine lv_iload_n hx hb dX11_all_147 rfl (lv_at hl 2 rfl) ?_
            refine xi_zne (tgt := 155) hx hb (rfl : Int32.toInt l2_36 = l2_36.toInt) dX11_all_148 (by decide) (fun c148 => ?_) (fun c148 => ?_)
            · refine lv_iload_n hx hb dX11_all_155 rfl (lv_at hl 1 rfl) ?_
              refine lv_iconst (v := 1) hx hb dX11_all_156 (by decide) ?_
              refine xi_cne (tgt := 164) hx hb (rfl : Int32.toInt p0 = p0.toInt) ((by decide) : Int32.toInt 1 = (1 : Int)) dX11_all_157 (by decide) (fun c157 => ?_) (fun c157 => ?_)
              · refine lv_iload hx hb dX11_all_164 (lv_at hl 4 rfl) ?_
                exact x_ri hx hb hr hlk hQ (Nat.le_of_ble_eq_true rfl) (Nat.le_of_ble_eq_true rfl) hS dX11_all_166 G21 ⟨_, rfl, (XFr.call (by rw [hG2]; exact XFr.dput XFr.rf (List.mem_of_getElem? (i := 0) rfl)) hF21 (xm1 1 rfl xm0) (xm1 0 rfl xm0) xm0), (v_X11_all_166_2 (K := K) (F := F) a G2 G G21 l2_36 l3_36 l4_36 l5_36 x11 p0 N36 ha oq21 oq21a pa t11 c14 z24 I36_0 I36_1 hm36 c42 c140 c148 c157)⟩ hT
              · refine lv_iload_n hx hb dX11_all_160 rfl (lv_at hl 3 rfl) ?_
                refine lv_goto (tgt := 166) hx hb dX11_all_161 (by decide) ?_
                exact x_ri hx hb hr hlk hQ (Nat.le_of_ble_eq_true rfl) (Nat.le_of_ble_eq_true rfl) hS dX11_all_166 G21 ⟨_, rfl, (XFr.call (by rw [hG2]; exact XFr.dput XFr.rf (List.mem_of_getElem? (i := 0) rfl)) hF21 (xm1 1 rfl xm0) (xm1 0 rfl xm0) xm0), (v_X11_all_166_3 (K := K) (F := F) a G2 G G21 l2_36 l3_36 l4_36 l5_36 x11 p0 N36 ha oq21 oq21a pa t11 c14 z24 I36_0 I36_1 hm36 c42 c140 c148 c157)⟩ hT
            · refine lv_iconst (v := (-1)) hx hb dX11_all_151 (by decide) ?_
              refine lv_goto (tgt := 166) hx hb dX11_all_152 (by decide) ?_
              exact x_ri hx hb hr hlk hQ (Nat.le_of_ble_eq_true rfl) (Nat.le_of_ble_eq_true rfl) hS dX11_all_166 G21 ⟨_, rfl, (XFr.call (by rw [hG2]; exact XFr.dput XFr.rf (List.mem_of_getElem? (i := 0) rfl)) hF21 (xm1 1 rfl xm0) (xm1 0 rfl xm0) xm0), (by rw [((by decide) : Int32.toInt (-1) = (-1 : Int))] <;> exact (v_X11_all_166_4 (K := K) (F := F) a G2 G G21 l2_36 l3_36 l4_36 l5_36 x11 p0 N36 ha oq21 oq21a pa t11 c14 z24 I36_0 I36_1 hm36 c42 c140 c148))⟩ hT
          · refine lv_iload_n hx hb dX11_all_143 rfl (lv_at hl 2 rfl) ?_
            refine lv_goto (tgt := 166) hx hb dX11_all_144 (by decide) ?_
            exact x_ri hx hb hr hlk hQ (Nat.le_of_ble_eq_true rfl) (Nat.le_of_ble_eq_true rfl) hS dX11_all_166 G21 ⟨_, rfl, (XFr.call (by rw [hG2]; exact XFr.dput XFr.rf (List.mem_of_getElem? (i := 0) rfl)) hF21 (xm1 1 rfl xm0) (xm1 0 rfl xm0) xm0), (v_X11_all_166_5 (K := K) (F := F) a G2 G G21 l2_36 l3_36 l4_36 l5_36 x11 p0 N36 ha oq21 oq21a pa t11 c14 z24 I36_0 I36_1 hm36 c42 c140)⟩ hT
        · have z45 : 0 ≤ (aI (G21.2.1 (F a 15)) (l5_36.toInt)) ∧ (aI (G21.2.1 (F a 15)) (l5_36.toInt)) ≤ 11 ∧ (aI (G.2.1 (F a 10)) (10 * (aI (G21.2.1 (F a 15)) (l5_36.toInt)) + 0)) ≠ -1 := oq21.ent (by decide) (z_X11_all_2 l5_36.toInt ((G21.1 a 16).toInt) I36_0 c42)
          have z45a : (((aI (G.2.1 (F a 10)) (10 * (aI (G21.2.1 (F a 15)) (l5_36.toInt)) + 0)) = 2 ∨ (aI (G.2.1 (F a 10)) (10 * (aI (G21.2.1 (F a 15)) (l5_36.toInt)) + 0)) = 4 ∨ (aI (G.2.1 (F a 10)) (10 * (aI (G21.2.1 (F a 15)) (l5_36.toInt)) + 0)) = 5) ∧ (sF (aI (G.2.1 (F a 10)) (10 * (aI (G21.2.1 (F a 15)) (l5_36.toInt)) + 0))) = 0 ∧ (sL (aI (G.2.1 (F a 10)) (10 * (aI (G21.2.1 (F a 15)) (l5_36.toInt)) + 0))) = 29) ∨ (¬ ((aI (G.2.1 (F a 10)) (10 * (aI (G21.2.1 (F a 15)) (l5_36.toInt)) + 0)) = 2 ∨ (aI (G.2.1 (F a 10)) (10 * (aI (G21.2.1 (F a 15)) (l5_36.toInt)) + 0)) = 4 ∨ (aI (G.2.1 (F a 10)) (10 * (aI (G21.2.1 (F a 15)) (l5_36.toInt)) + 0)) = 5) ∧ (sF (aI (G.2.1 (F a 10)) (10 * (aI (G21.2.1 (F a 15)) (l5_36.toInt)) + 0))) = -99 ∧ (sL (aI (G.2.1 (F a 10)) (10 * (aI (G21.2.1 (F a 15)) (l5_36.toInt)) + 0))) = 99) := sFL _
          refine lv_aload_n hx hb dX11_all_45 rfl (lv_at hl 0 rfl) ?_
          refine lv_aload_n hx hb dX11_all_46 rfl (lv_at hl 0 rfl) ?_
          refine gX11_15 S hK hT ha kf_X11_48 dX11_all_47 (fun _ _ => ?_)
          refine lv_iload hx hb dX11_all_50 (lv_at hl 5 rfl) ?_
          refine al_0 S hK hT hk9999 ar_42 (by decide) (z_X11_all_3 l5_36.toInt ((G21.1 a 16).toInt) z24 I36_0 c42) dX11_all_52 (fun x52 hv52 o52 => ?_)
          have hv52 : x52.toInt = (aI (G21.2.1 (F a 15)) (l5_36.toInt)) := hv52.trans (by rw [(rfl : Int32.toInt l5_36 = l5_36.toInt)])
          refine x_clp (x_runV (b := a) (As := [.int x52]) (rest := []) S (c_X11_firstSubject l E K F G21 H a x52 ha (by rw [(hv52 : Int32.toInt x52 = (aI (G21.2.1 (F a 15)) (l5_36.toInt)))] <;> exact (z_X11_all_4 (aI (G21.2.1 (F a 15)) (l5_36.toInt)) (z45).1 (z45).2.1))) mv_X11_firstSubject km_X11_179 rfl rfl ⟨Nat.le_of_ble_eq_true rfl, Nat.le_of_ble_eq_true rfl⟩ (rc_13 hK hT ha) hK (fun _ => XPh.blind) (fun U hU hW => XPh.at hK hz hS hT hU hW) rfl hl.1 (Nat.le_of_ble_eq_true rfl) dX11_all_53 ⟨Nat.le_of_ble_eq_true rfl, Nat.le_of_ble_eq_true rfl⟩) hS ?_
          rintro _ _ locs ⟨x53, rfl, t53⟩ hS
          have t53 : x53.toInt = (sF (aI (G.2.1 (F a 10)) (10 * (aI (G21.2.1 (F a 15)) (l5_36.toInt)) + 0))) := by rw [(hv52 : Int32.toInt x52 = (aI (G21.2.1 (F a 15)) (l5_36.toInt)))] at t53; rw [(show G21.2.1 (F a 10) = G.2.1 (F a 10) from ((hF21.2.1 _ (xn1 (xne_k hk9999a hk9999 (by decide)) xn0)).trans (ld_c hG2)))] at t53; exact t53
          refine lv_istore (lv' := [(6, .int x53), (0, .ref a), (1, .int p0), (2, .int l2_36), (3, .int l3_36), (4, .int l4_36), (5, .int l5_36)]) hx hb dX11_all_56 hl (by decide) rfl (fun ls hl => ?_)
          have L58 : ∀ (N58 : Nat) (l2_58 : Int32) (l3_58 : Int32) (l4_58 : Int32) (l6_58 : Int32) (H : Heap) (locs : List Loc) (ls : Array Slot), TrA l2_58.toInt l3_58.toInt l4_58.toInt (faL (G.2.1 (F a 10)) (mw (G.2.1 (F a 1)) 0) (ordN (prM (G.2.1 (F a 10))) (rkM (G.2.1 (F a 10))) 12).2 (l5_36.toInt).toNat ++ fap (G.2.1 (F a 10)) (mw (G.2.1 (F a 1)) 0) (aI (G21.2.1 (F a 15)) (l5_36.toInt)) l6_58.toInt) → (sF (aI (G.2.1 (F a 10)) (10 * (aI (G21.2.1 (F a 15)) (l5_36.toInt)) + 0))) ≤ l6_58.toInt ∧ l6_58.toInt ≤ (sL (aI (G.2.1 (F a 10)) (10 * (aI (G21.2.1 (F a 15)) (l5_36.toInt)) + 0))) + 1 → 0 ≤ l2_58.toInt ∧ l2_58.toInt ≤ 199 * l5_36.toInt + (l6_58.toInt - (sF (aI (G.2.1 (F a 10)) (10 * (aI (G21.2.1 (F a 15)) (l5_36.toInt)) + 0)))) → 2147483648 - l6_58.toInt < ((N58 : Nat) : Int) → TW E K F G21 H → va_S (xA E) s.heap H locs → lv_has ls 7 [(0, .ref a), (1, .int p0), (2, .int l2_58), (3, .int l3_58), (4, .int l4_58), (5, .int l5_36), (6, .int l6_58)] → W p l e rm_X11_all s m args below meth c H locs 0 0 Q (F0 m 58 ls []) := by
            intro N58
            induction N58 with
            | zero =>
              intro l2_58 l3_58 l4_58 l6_58 H locs ls pi I58_0 I58_1 hm58
              exact absurd hm58 (z_X11_first_1 l6_58.toInt (xr l6_58))
            | succ N58 ih58 =>
              intro l2_58 l3_58 l4_58 l6_58 H locs ls pi I58_0 I58_1 hm58 hT hS hl
              refine lv_iload hx hb dX11_all_58 (lv_at hl 6 rfl) ?_
              refine lv_aload_n hx hb dX11_all_60 rfl (lv_at hl 0 rfl) ?_
              refine lv_aload_n hx hb dX11_all_61 rfl (lv_at hl 0 rfl) ?_
              refine gX11_15 S hK hT ha kf_X11_48 dX11_all_62 (fun _ _ => ?_)
              refine lv_iload hx hb dX11_all_65 (lv_at hl 5 rfl) ?_
              refine al_0 S hK hT hk9999 ar_42 (by decide) (z_X11_all_3 l5_36.toInt ((G21.1 a 16).toInt) z24 I36_0 c42) dX11_all_67 (fun x67 hv67 o67 => ?_)
              have hv67 : x67.toInt = (aI (G21.2.1 (F a 15)) (l5_36.toInt)) := hv67.trans (by rw [(rfl : Int32.toInt l5_36 = l5_36.toInt)])
              refine x_clp (x_runV (b := a) (As := [.int x67]) (rest := [.int l6_58]) S (c_X11_lastSubject l E K F G21 H a x67 ha (by rw [(hv67 : Int32.toInt x67 = (aI (G21.2.1 (F a 15)) (l5_36.toInt)))] <;> exact (z_X11_all_4 (aI (G21.2.1 (F a 15)) (l5_36.toInt)) (z45).1 (z45).2.1))) mv_X11_lastSubject km_X11_183 rfl rfl ⟨Nat.le_of_ble_eq_true rfl, Nat.le_of_ble_eq_true rfl⟩ (rc_13 hK hT ha) hK (fun _ => XPh.blind) (fun U hU hW => XPh.at hK hz hS hT hU hW) rfl hl.1 (Nat.le_of_ble_eq_true rfl) dX11_all_68 ⟨Nat.le_of_ble_eq_true rfl, Nat.le_of_ble_eq_true rfl⟩) hS ?_
              rintro _ _ locs ⟨x68, rfl, t68⟩ hS
              have t68 : x68.toInt = (sL (aI (G.2.1 (F a 10)) (10 * (aI (G21.2.1 (F a 15)) (l5_36.toInt)) + 0))) := by rw [(hv67 : Int32.toInt x67 = (aI (G21.2.1 (F a 15)) (l5_36.toInt)))] at t68; rw [(show G21.2.1 (F a 10) = G.2.1 (F a 10) from ((hF21.2.1 _ (xn1 (xne_k hk9999a hk9999 (by decide)) xn0)).trans (ld_c hG2)))] at t68; exact t68
              refine xi_cgt (tgt := 133) hx hb (rfl : Int32.toInt l6_58 = l6_58.toInt) (t68 : Int32.toInt x68 = (sL (aI (G.2.1 (F a 10)) (10 * (aI (G21.2.1 (F a 15)) (l5_36.toInt)) + 0)))) dX11_all_71 (by decide) (fun c71 => ?_) (fun c71 => ?_)
              · refine xi_iinc (n := 1) (lv' := fun z9 => [(5, .int z9), (0, .ref a), (1, .int p0), (2, .int l2_58), (3, .int l3_58), (4, .int l4_58), (6, .int l6_58)]) (k := 5) hx hb (rfl : Int32.toInt l5_36 = l5_36.toInt) (by decide) dX11_all_133 hl rfl (by decide) (fun _ => rfl) (fun x133 ls t133 hl => ?_)
                have e133 : x133.toInt = (l5_36.toInt + 1) := (z_X11_all_8 l5_36.toInt x133.toInt ((G21.1 a 16).toInt) z24 I36_0 t133)
                have hl : lv_has ls 7 [(5, .int x133), (0, .ref a), (1, .int p0), (2, .int l2_58), (3, .int l3_58), (4, .int l4_58), (6, .int l6_58)] := hl
                refine lv_goto (tgt := 36) hx hb dX11_all_136 (by decide) ?_
                exact ih36 l2_58 l3_58 l4_58 x133 _ _ _ (by rw [(e133 : Int32.toInt x133 = (l5_36.toInt + 1))] <;> exact (v_X11_all_136_6 (K := K) (F := F) a G2 G G21 l2_36 l3_36 l4_36 l5_36 l2_58 l3_58 l4_58 l6_58 x11 p0 N36 N58 ha oq21 oq21a pa pi t11 c14 z24 I36_0 I36_1 hm36 c42 z45 z45a I58_0 I58_1 hm58 c71)) (by rw [(e133 : Int32.toInt x133 = (l5_36.toInt + 1))] <;> exact (z_X11_all_9 l5_36.toInt ((G21.1 a 16).toInt) I36_0 c42)) (by rw [(e133 : Int32.toInt x133 = (l5_36.toInt + 1))] <;> exact (z_X11_all_10 l2_58.toInt l5_36.toInt l6_58.toInt (aI (G.2.1 (F a 10)) (10 * (aI (G21.2.1 (F a 15)) (l5_36.toInt)) + 0)) (sF (aI (G.2.1 (F a 10)) (10 * (aI (G21.2.1 (F a 15)) (l5_36.toInt)) + 0))) (sL (aI (G.2.1 (F a 10)) (10 * (aI (G21.2.1 (F a 15)) (l5_36.toInt)) + 0))) z45a I58_0 I58_1)) (by rw [(e133 : Int32.toInt x133 = (l5_36.toInt + 1))] <;> exact (z_X11_all_11 l5_36.toInt N36 hm36)) hT hS (lv_sub hl [1, 2, 3, 4, 5, 0] rfl)
              · refine lv_aload_n hx hb dX11_all_74 rfl (lv_at hl 0 rfl) ?_
                refine lv_aload_n hx hb dX11_all_75 rfl (lv_at hl 0 rfl) ?_
                refine gX11_15 S hK hT ha kf_X11_48 dX11_all_76 (fun _ _ => ?_)
                refine lv_iload hx hb dX11_all_79 (lv_at hl 5 rfl) ?_
                refine al_0 S hK hT hk9999 ar_42 (by decide) (z_X11_all_3 l5_36.toInt ((G21.1 a 16).toInt) z24 I36_0 c42) dX11_all_81 (fun x81 hv81 o81 => ?_)
                have hv81 : x81.toInt = (aI (G21.2.1 (F a 15)) (l5_36.toInt)) := hv81.trans (by rw [(rfl : Int32.toInt l5_36 = l5_36.toInt)])
                refine lv_iload hx hb dX11_all_82 (lv_at hl 6 rfl) ?_
                refine lv_aload_n hx hb dX11_all_84 rfl (lv_at hl 0 rfl) ?_
                refine gX11_1 S hK hT ha kf_X11_9 dX11_all_85 (fun _ _ => ?_)
                refine lv_iconst (v := 0) hx hb dX11_all_88 (by decide) ?_
                refine x_clp (x_runV (b := a) (As := [.int x81, .int l6_58, .ref (F a 1), .int 0]) (rest := []) S (c_X11_fails l E K F G21 H a x81 l6_58 (F a 1) 0 ha (XO.a hk9999b (by decide)) (by rw [(hv81 : Int32.toInt x81 = (aI (G21.2.1 (F a 15)) (l5_36.toInt)))] <;> exact (z_X11_all_4 (aI (G21.2.1 (F a 15)) (l5_36.toInt)) (z45).1 (z45).2.1)) (by rw [(hv81 : Int32.toInt x81 = (aI (G21.2.1 (F a 15)) (l5_36.toInt))), (show G21.2.1 (F a 10) = G.2.1 (F a 10) from ((hF21.2.1 _ (xn1 (xne_k hk9999a hk9999 (by decide)) xn0)).trans (ld_c hG2)))] <;> exact ((z45).2.2)) (by rw [(hv81 : Int32.toInt x81 = (aI (G21.2.1 (F a 15)) (l5_36.toInt))), (show G21.2.1 (F a 10) = G.2.1 (F a 10) from ((hF21.2.1 _ (xn1 (xne_k hk9999a hk9999 (by decide)) xn0)).trans (ld_c hG2)))] <;> exact (z_X11_all_15 l6_58.toInt (sF (aI (G.2.1 (F a 10)) (10 * (aI (G21.2.1 (F a 15)) (l5_36.toInt)) + 0))) (sL (aI (G.2.1 (F a 10)) (10 * (aI (G21.2.1 (F a 15)) (l5_36.toInt)) + 0))) I58_0 c71)) (v_X11_all_89_7 (F := F) a G G21 hR ((hF21.2.1 _ (xn1 (xne_k hk9999a hk9999 (by decide)) xn0)).trans (ld_c hG2))) (v_X11_all_89_8 (F := F) a G G21 hM ((hF21.2.1 _ (xn1 (xne_k hk9999b hk9999 (by decide)) xn0)).trans (ld_c hG2)))) mv_X11_fails km_X11_221 rfl rfl ⟨Nat.le_of_ble_eq_true rfl, Nat.le_of_ble_eq_true rfl⟩ (rc_13 hK hT ha) hK (fun _ => XPh.blind) (fun U hU hW => XPh.at hK hz hS hT hU hW) rfl hl.1 (Nat.le_of_ble_eq_true rfl) dX11_all_89 ⟨Nat.le_of_ble_eq_true rfl, Nat.le_of_ble_eq_true rfl⟩) hS ?_
                rintro _ _ locs ⟨x89, rfl, b89, t89⟩ hS
                have t89 : x89.toInt = (flq (mw (G.2.1 (F a 1)) 0) (aI (G.2.1 (F a 10)) (10 * (aI (G21.2.1 (F a 15)) (l5_36.toInt)) + 0)) (aI (G.2.1 (F a 10)) (10 * (aI (G21.2.1 (F a 15)) (l5_36.toInt)) + 1)) (aI (G.2.1 (F a 10)) (10 * (aI (G21.2.1 (F a 15)) (l5_36.toInt)) + 2)) (aI (G.2.1 (F a 10)) (10 * (aI (G21.2.1 (F a 15)) (l5_36.toInt)) + 4)) (aI (G.2.1 (F a 10)) (10 * (aI (G21.2.1 (F a 15)) (l5_36.toInt)) + 5)) (l6_58.toInt) (stt (mw (G.2.1 (F a 1)) 0) (aI (G.2.1 (F a 10)) (10 * (aI (G21.2.1 (F a 15)) (l5_36.toInt)) + 0)) (aI (G.2.1 (F a 10)) (10 * (aI (G21.2.1 (F a 15)) (l5_36.toInt)) + 1)) (aI (G.2.1 (F a 10)) (10 * (aI (G21.2.1 (F a 15)) (l5_36.toInt)) + 2)) (aI (G.2.1 (F a 10)) (10 * (aI (G21.2.1 (F a 15)) (l5_36.toInt)) + 3)) (l6_58.toInt))) := by rw [(hv81 : Int32.toInt x81 = (aI (G21.2.1 (F a 15)) (l5_36.toInt)))] at t89; rw [(show G21.2.1 (F a 1) = G.2.1 (F a 1) from ((hF21.2.1 _ (xn1 (xne_k hk9999b hk9999 (by decide)) xn0)).trans (ld_c hG2)))] at t89; rw [(show G21.2.1 (F a 10) = G.2.1 (F a 10) from ((hF21.2.1 _ (xn1 (xne_k hk9999a hk9999 (by decide)) xn0)).trans (ld_c hG2)))] at t89; exact t89
                refine xi_zeq (tgt := 127) hx hb (rfl : Int32.toInt x89 = x89.toInt) dX11_all_92 (by decide) (fun c92 => ?_) (fun c92 => ?_)
                · refine xi_iinc (n := 1) (lv' := fun z9 => [(6, .int z9), (0, .ref a), (1, .int p0), (2, .int l2_58), (3, .int l3_58), (4, .int l4_58), (5, .int l5_36)]) (k := 6) hx hb (rfl : Int32.toInt l6_58 = l6_58.toInt) (by decide) dX11_all_127 hl rfl (by decide) (fun _ => rfl) (fun x127 ls t127 hl => ?_)
                  have e127 : x127.toInt = (l6_58.toInt + 1) := (z_X11_all_16 l6_58.toInt x127.toInt (aI (G.2.1 (F a 10)) (10 * (aI (G21.2.1 (F a 15)) (l5_36.toInt)) + 0)) (sF (aI (G.2.1 (F a 10)) (10 * (aI (G21.2.1 (F a 15)) (l5_36.toInt)) + 0))) (sL (aI (G.2.1 (F a 10)) (10 * (aI (G21.2.1 (F a 15)) (l5_36.toInt)) + 0))) z45a c71 t127 (xr l6_58))
                  have hl : lv_has ls 7 [(6, .int x127), (0, .ref a), (1, .int p0), (2, .int l2_58), (3, .int l3_58), (4, .int l4_58), (5, .int l5_36)] := hl
                  refine lv_goto (tgt := 58) hx hb dX11_all_130 (by decide) ?_
                  exact ih58 l2_58 l3_58 l4_58 x127 _ _ _ (by rw [(e127 : Int32.toInt x127 = (l6_58.toInt + 1))] <;> exact (v_X11_all_130_9 (K := K) (F := F) a G2 G G21 l2_36 l3_36 l4_36 l5_36 l2_58 l3_58 l4_58 l6_58 x11 p0 N36 N58 x89 ha oq21a pa pi t11 c14 z24 I36_0 I36_1 hm36 c42 z45 z45a I58_0 I58_1 hm58 c71 t89 (xzi b89) c92)) (by rw [(e127 : Int32.toInt x127 = (l6_58.toInt + 1))] <;> exact (z_X11_all_17 l6_58.toInt (sF (aI (G.2.1 (F a 10)) (10 * (aI (G21.2.1 (F a 15)) (l5_36.toInt)) + 0))) (sL (aI (G.2.1 (F a 10)) (10 * (aI (G21.2.1 (F a 15)) (l5_36.toInt)) + 0))) I58_0 c71)) (by rw [(e127 : Int32.toInt x127 = (l6_58.toInt + 1))] <;> exact (z_X11_all_18 l2_58.toInt l5_36.toInt l6_58.toInt (sF (aI (G.2.1 (F a 10)) (10 * (aI (G21.2.1 (F a 15)) (l5_36.toInt)) + 0))) I58_1)) (by rw [(e127 : Int32.toInt x127 = (l6_58.toInt + 1))] <;> exact (z_X11_first_14 l6_58.toInt N58 hm58)) hT hS (lv_sub hl [1, 2, 3, 4, 5, 6, 0] rfl)
                · refine lv_iload_n hx hb dX11_all_95 rfl (lv_at hl 2 rfl) ?_
                  refine xi_zne (tgt := 109) hx hb (rfl : Int32.toInt l2_58 = l2_58.toInt) dX11_all_96 (by decide) (fun c96 => ?_) (fun c96 => ?_)
                  · refine lv_iload_n hx hb dX11_all_109 rfl (lv_at hl 3 rfl) ?_
                    refine lv_istore_n (lv' := [(3, .int l3_58), (0, .ref a), (1, .int p0), (2, .int l2_58), (4, .int l4_58), (5, .int l5_36), (6, .int l6_58)]) hx hb dX11_all_110 rfl hl (by decide) rfl (fun ls hl => ?_)
                    refine lv_iload_n hx hb dX11_all_111 rfl (lv_at hl 3 rfl) ?_
                    refine xi_zne (tgt := 120) hx hb (rfl : Int32.toInt l2_58 = l2_58.toInt) dX11_all_112 (by decide) (fun c112 => ?_) (fun c112 => ?_)
                    · refine lv_iload hx hb dX11_all_120 (lv_at hl 4 rfl) ?_
                      refine lv_istore (lv' := [(4, .int l4_58), (3, .int l3_58), (0, .ref a), (1, .int p0), (2, .int l2_58), (5, .int l5_36), (6, .int l6_58)]) hx hb dX11_all_122 hl (by decide) rfl (fun ls hl => ?_)
                      refine xi_iinc (n := 1) (lv' := fun z9 => [(2, .int z9), (4, .int l4_58), (3, .int l3_58), (0, .ref a), (1, .int p0), (5, .int l5_36), (6, .int l6_58)]) (k := 4) hx hb (rfl : Int32.toInt l2_58 = l2_58.toInt) (by decide) dX11_all_124 hl rfl (by decide) (fun _ => rfl) (fun x124 ls t124 hl => ?_)
                      have e124 : x124.toInt = (l2_58.toInt + 1) := (z_X11_all_20 l2_58.toInt l5_36.toInt l6_58.toInt x124.toInt ((G21.1 a 16).toInt) (aI (G.2.1 (F a 10)) (10 * (aI (G21.2.1 (F a 15)) (l5_36.toInt)) + 0)) (sF (aI (G.2.1 (F a 10)) (10 * (aI (G21.2.1 (F a 15)) (l5_36.toInt)) + 0))) (sL (aI (G.2.1 (F a 10)) (10 * (aI (G21.2.1 (F a 15)) (l5_36.toInt)) + 0))) z24 c42 z45a I58_1 c71 t124)
                      have hl : lv_has ls 7 [(2, .int x124), (4, .int l4_58), (3, .int l3_58), (0, .ref a), (1, .int p0), (5, .int l5_36), (6, .int l6_58)] := hl
                      refine xi_iinc (n := 1) (lv' := fun z9 => [(6, .int z9), (2, .int x124), (4, .int l4_58), (3, .int l3_58), (0, .ref a), (1, .int p0), (5, .int l5_36)]) (k := 6) hx hb (rfl : Int32.toInt l6_58 = l6_58.toInt) (by decide) dX11_all_127 hl rfl (by decide) (fun _ => rfl) (fun x127 ls t127 hl => ?_)
                      have e127 : x127.toInt = (l6_58.toInt + 1) := (z_X11_all_16 l6_58.toInt x127.toInt (aI (G.2.1 (F a 10)) (10 * (aI (G21.2.1 (F a 15)) (l5_36.toInt)) + 0)) (sF (aI (G.2.1 (F a 10)) (10 * (aI (G21.2.1 (F a 15)) (l5_36.toInt)) + 0))) (sL (aI (G.2.1 (F a 10)) (10 * (aI (G21.2.1 (F a 15)) (l5_36.toInt)) + 0))) z45a c71 t127 (xr l6_58))
                      have hl : lv_has ls 7 [(6, .int x127), (2, .int x124), (4, .int l4_58), (3, .int l3_58), (0, .ref a), (1, .int p0), (5, .int l5_36)] := hl
                      refine lv_goto (tgt := 58) hx hb dX11_all_130 (by decide) ?_
                      exact ih58 x124 l3_58 l4_58 x127 _ _ _ (by rw [(e124 : Int32.toInt x124 = (l2_58.toInt + 1)), (e127 : Int32.toInt x127 = (l6_58.toInt + 1))] <;> exact (v_X11_all_130_10 (K := K) (F := F) a G2 G G21 l2_36 l3_36 l4_36 l5_36 l2_58 l3_58 l4_58 l6_58 x11 p0 N36 N58 x89 ha oq21a pa pi t11 c14 z24 I36_0 I36_1 hm36 c42 z45 z45a I58_0 I58_1 hm58 c71 t89 (xzi b89) c92 c96)) (by rw [(e127 : Int32.toInt x127 = (l6_58.toInt + 1))] <;> exact (z_X11_all_17 l6_58.toInt (sF (aI (G.2.1 (F a 10)) (10 * (aI (G21.2.1 (F a 15)) (l5_36.toInt)) + 0))) (sL (aI (G.2.1 (F a 10)) (10 * (aI (G21.2.1 (F a 15)) (l5_36.toInt)) + 0))) I58_0 c71)) (by rw [(e124 : Int32.toInt x124 = (l2_58.toInt + 1)), (e127 : Int32.toInt x127 = (l6_58.toInt + 1))] <;> exact (z_X11_all_23 l2_58.toInt l5_36.toInt l6_58.toInt (sF (aI (G.2.1 (F a 10)) (10 * (aI (G21.2.1 (F a 15)) (l5_36.toInt)) + 0))) I58_1)) (by rw [(e127 : Int32.toInt x127 = (l6_58.toInt + 1))] <;> exact (z_X11_first_14 l6_58.toInt N58 hm58)) hT hS (lv_sub hl [4, 5, 1, 3, 2, 6, 0] rfl)
                    · refine lv_iload hx hb dX11_all_115 (lv_at hl 6 rfl) ?_
                      refine lv_goto (tgt := 122) hx hb dX11_all_117 (by decide) ?_
                      refine lv_istore (lv' := [(4, .int l6_58), (3, .int l3_58), (0, .ref a), (1, .int p0), (2, .int l2_58), (5, .int l5_36), (6, .int l6_58)]) hx hb dX11_all_122 hl (by decide) rfl (fun ls hl => ?_)
                      refine xi_iinc (n := 1) (lv' := fun z9 => [(2, .int z9), (4, .int l6_58), (3, .int l3_58), (0, .ref a), (1, .int p0), (5, .int l5_36), (6, .int l6_58)]) (k := 4) hx hb (rfl : Int32.toInt l2_58 = l2_58.toInt) (by decide) dX11_all_124 hl rfl (by decide) (fun _ => rfl) (fun x124 ls t124 hl => ?_)
                      have e124 : x124.toInt = (l2_58.toInt + 1) := (z_X11_all_25 l2_58.toInt x124.toInt c96 c112)
                      have hl : lv_has ls 7 [(2, .int x124), (4, .int l6_58), (3, .int l3_58), (0, .ref a), (1, .int p0), (5, .int l5_36), (6, .int l6_58)] := hl
                      refine xi_iinc (n := 1) (lv' := fun z9 => [(6, .int z9), (2, .int x124), (4, .int l6_58), (3, .int l3_58), (0, .ref a), (1, .int p0), (5, .int l5_36)]) (k := 6) hx hb (rfl : Int32.toInt l6_58 = l6_58.toInt) (by decide) dX11_all_127 hl rfl (by decide) (fun _ => rfl) (fun x127 ls t127 hl => ?_)
                      have e127 : x127.toInt = (l6_58.toInt + 1) := (z_X11_all_26 l2_58.toInt l6_58.toInt x127.toInt c96 c112)
                      have hl : lv_has ls 7 [(6, .int x127), (2, .int x124), (4, .int l6_58), (3, .int l3_58), (0, .ref a), (1, .int p0), (5, .int l5_36)] := hl
                      refine lv_goto (tgt := 58) hx hb dX11_all_130 (by decide) ?_
                      exact ih58 x124 l3_58 l6_58 x127 _ _ _ (by rw [(e124 : Int32.toInt x124 = (l2_58.toInt + 1)), (e127 : Int32.toInt x127 = (l6_58.toInt + 1))] <;> exact (v_X11_all_130_11 (K := K) (F := F) a G2 G G21 l2_36 l3_36 l4_36 l5_36 l2_58 l3_58 l4_58 l6_58 x11 p0 N36 N58 x89 ha oq21a pa pi t11 c14 z24 I36_0 I36_1 hm36 c42 z45 z45a I58_0 I58_1 hm58 c71 t89 (xzi b89) c92 c96 c112)) (by rw [(e127 : Int32.toInt x127 = (l6_58.toInt + 1))] <;> exact (z_X11_all_17 l6_58.toInt (sF (aI (G.2.1 (F a 10)) (10 * (aI (G21.2.1 (F a 15)) (l5_36.toInt)) + 0))) (sL (aI (G.2.1 (F a 10)) (10 * (aI (G21.2.1 (F a 15)) (l5_36.toInt)) + 0))) I58_0 c71)) (by rw [(e124 : Int32.toInt x124 = (l2_58.toInt + 1)), (e127 : Int32.toInt x127 = (l6_58.toInt + 1))] <;> exact (z_X11_all_23 l2_58.toInt l5_36.toInt l6_58.toInt (sF (aI (G.2.1 (F a 10)) (10 * (aI (G21.2.1 (F a 15)) (l5_36.toInt)) + 0))) I58_1)) (by rw [(e127 : Int32.toInt x127 = (l6_58.toInt + 1))] <;> exact (z_X11_first_14 l6_58.toInt N58 hm58)) hT hS (lv_sub hl [4, 5, 1, 3, 2, 6, 0] rfl)
                  · refine lv_aload_n hx hb dX11_all_99 rfl (lv_at hl 0 rfl) ?_
                    refine gX11_15 S hK hT ha kf_X11_48 dX11_all_100 (fun _ _ => ?_)
                    refine lv_iload hx hb dX11_all_103 (lv_at hl 5 rfl) ?_
                    refine al_0 S hK hT hk9999 ar_42 (by decide) (z_X11_all_3 l5_36.toInt ((G21.1 a 16).toInt) z24 I36_0 c42) dX11_all_105 (fun x105 hv105 o105 => ?_)
                    have hv105 : x105.toInt = (aI (G21.2.1 (F a 15)) (l5_36.toInt)) := hv105.trans (by rw [(rfl : Int32.toInt l5_36 = l5_36.toInt)])
                    refine lv_goto (tgt := 110) hx hb dX11_all_106 (by decide) ?_
                    refine lv_istore_n (lv' := [(3, .int x105), (0, .ref a), (1, .int p0), (2, .int l2_58), (4, .int l4_58), (5, .int l5_36), (6, .int l6_58)]) hx hb dX11_all_110 rfl hl (by decide) rfl (fun ls hl => ?_)
                    refine lv_iload_n hx hb dX11_all_111 rfl (lv_at hl 3 rfl) ?_
                    refine xi_zne (tgt := 120) hx hb (rfl : Int32.toInt l2_58 = l2_58.toInt) dX11_all_112 (by decide) (fun c112 => ?_) (fun c112 => ?_)
                    · refine lv_iload hx hb dX11_all_120 (lv_at hl 4 rfl) ?_
                      refine lv_istore (lv' := [(4, .int l4_58), (3, .int x105), (0, .ref a), (1, .int p0), (2, .int l2_58), (5, .int l5_36), (6, .int l6_58)]) hx hb dX11_all_122 hl (by decide) rfl (fun ls hl => ?_)
                      refine xi_iinc (n := 1) (lv' := fun z9 => [(2, .int z9), (4, .int l4_58), (3, .int x105), (0, .ref a), (1, .int p0), (5, .int l5_36), (6, .int l6_58)]) (k := 4) hx hb (rfl : Int32.toInt l2_58 = l2_58.toInt) (by decide) dX11_all_124 hl rfl (by decide) (fun _ => rfl) (fun x124 ls t124 hl => ?_)
                      have e124 : x124.toInt = (l2_58.toInt + 1) := (z_X11_all_31 l2_58.toInt x124.toInt c96 c112)
                      have hl : lv_has ls 7 [(2, .int x124), (4, .int l4_58), (3, .int x105), (0, .ref a), (1, .int p0), (5, .int l5_36), (6, .int l6_58)] := hl
                      refine xi_iinc (n := 1) (lv' := fun z9 => [(6, .int z9), (2, .int x124), (4, .int l4_58), (3, .int x105), (0, .ref a), (1, .int p0), (5, .int l5_36)]) (k := 6) hx hb (rfl : Int32.toInt l6_58 = l6_58.toInt) (by decide) dX11_all_127 hl rfl (by decide) (fun _ => rfl) (fun x127 ls t127 hl => ?_)
                      have e127 : x127.toInt = (l6_58.toInt + 1) := (z_X11_all_32 l2_58.toInt l6_58.toInt x127.toInt c96 c112)
                      have hl : lv_has ls 7 [(6, .int x127), (2, .int x124), (4, .int l4_58), (3, .int x105), (0, .ref a), (1, .int p0), (5, .int l5_36)] := hl
                      refine lv_goto (tgt := 58) hx hb dX11_all_130 (by decide) ?_
                      exact ih58 x124 x105 l4_58 x127 _ _ _ (by rw [(e124 : Int32.toInt x124 = (l2_58.toInt + 1)), (hv105 : Int32.toInt x105 = (aI (G21.2.1 (F a 15)) (l5_36.toInt))), (e127 : Int32.toInt x127 = (l6_58.toInt + 1))] <;> exact (v_X11_all_130_12 (K := K) (F := F) a G2 G G21 l2_36 l3_36 l4_36 l5_36 l2_58 l3_58 l4_58 l6_58 x11 p0 N36 N58 x89 ha oq21a pa pi t11 c14 z24 I36_0 I36_1 hm36 c42 z45 z45a I58_0 I58_1 hm58 c71 t89 (xzi b89) c92 c96 c112)) (by rw [(e127 : Int32.toInt x127 = (l6_58.toInt + 1))] <;> exact (z_X11_all_17 l6_58.toInt (sF (aI (G.2.1 (F a 10)) (10 * (aI (G21.2.1 (F a 15)) (l5_36.toInt)) + 0))) (sL (aI (G.2.1 (F a 10)) (10 * (aI (G21.2.1 (F a 15)) (l5_36.toInt)) + 0))) I58_0 c71)) (by rw [(e124 : Int32.toInt x124 = (l2_58.toInt + 1)), (e127 : Int32.toInt x127 = (l6_58.toInt + 1))] <;> exact (z_X11_all_23 l2_58.toInt l5_36.toInt l6_58.toInt (sF (aI (G.2.1 (F a 10)) (10 * (aI (G21.2.1 (F a 15)) (l5_36.toInt)) + 0))) I58_1)) (by rw [(e127 : Int32.toInt x127 = (l6_58.toInt + 1))] <;> exact (z_X11_first_14 l6_58.toInt N58 hm58)) hT hS (lv_sub hl [4, 5, 1, 3, 2, 6, 0] rfl)
                    · refine lv_iload hx hb dX11_all_115 (lv_at hl 6 rfl) ?_
                      refine lv_goto (tgt := 122) hx hb dX11_all_117 (by decide) ?_
                      refine lv_istore (lv' := [(4, .int l6_58), (3, .int x105), (0, .ref a), (1, .int p0), (2, .int l2_58), (5, .int l5_36), (6, .int l6_58)]) hx hb dX11_all_122 hl (by decide) rfl (fun ls hl => ?_)
                      refine xi_iinc (n := 1) (lv' := fun z9 => [(2, .int z9), (4, .int l6_58), (3, .int x105), (0, .ref a), (1, .int p0), (5, .int l5_36), (6, .int l6_58)]) (k := 4) hx hb (rfl : Int32.toInt l2_58 = l2_58.toInt) (by decide) dX11_all_124 hl rfl (by decide) (fun _ => rfl) (fun x124 ls t124 hl => ?_)
                      have e124 : x124.toInt = (l2_58.toInt + 1) := (z_X11_all_36 l2_58.toInt x124.toInt c96 t124)
                      have hl : lv_has ls 7 [(2, .int x124), (4, .int l6_58), (3, .int x105), (0, .ref a), (1, .int p0), (5, .int l5_36), (6, .int l6_58)] := hl
                      refine xi_iinc (n := 1) (lv' := fun z9 => [(6, .int z9), (2, .int x124), (4, .int l6_58), (3, .int x105), (0, .ref a), (1, .int p0), (5, .int l5_36)]) (k := 6) hx hb (rfl : Int32.toInt l6_58 = l6_58.toInt) (by decide) dX11_all_127 hl rfl (by decide) (fun _ => rfl) (fun x127 ls t127 hl => ?_)
                      have e127 : x127.toInt = (l6_58.toInt + 1) := (z_X11_all_16 l6_58.toInt x127.toInt (aI (G.2.1 (F a 10)) (10 * (aI (G21.2.1 (F a 15)) (l5_36.toInt)) + 0)) (sF (aI (G.2.1 (F a 10)) (10 * (aI (G21.2.1 (F a 15)) (l5_36.toInt)) + 0))) (sL (aI (G.2.1 (F a 10)) (10 * (aI (G21.2.1 (F a 15)) (l5_36.toInt)) + 0))) z45a c71 t127 (xr l6_58))
                      have hl : lv_has ls 7 [(6, .int x127), (2, .int x124), (4, .int l6_58), (3, .int x105), (0, .ref a), (1, .int p0), (5, .int l5_36)] := hl
                      refine lv_goto (tgt := 58) hx hb dX11_all_130 (by decide) ?_
                      exact ih58 x124 x105 l6_58 x127 _ _ _ (by rw [(e124 : Int32.toInt x124 = (l2_58.toInt + 1)), (hv105 : Int32.toInt x105 = (aI (G21.2.1 (F a 15)) (l5_36.toInt))), (e127 : Int32.toInt x127 = (l6_58.toInt + 1))] <;> exact (v_X11_all_130_13 (K := K) (F := F) a G2 G G21 l2_36 l3_36 l4_36 l5_36 l2_58 l3_58 l4_58 l6_58 x11 p0 N36 N58 x89 ha oq21a pa pi t11 c14 z24 I36_0 I36_1 hm36 c42 z45 z45a I58_0 I58_1 hm58 c71 t89 (xzi b89) c92 c96)) (by rw [(e127 : Int32.toInt x127 = (l6_58.toInt + 1))] <;> exact (z_X11_all_17 l6_58.toInt (sF (aI (G.2.1 (F a 10)) (10 * (aI (G21.2.1 (F a 15)) (l5_36.toInt)) + 0))) (sL (aI (G.2.1 (F a 10)) (10 * (aI (G21.2.1 (F a 15)) (l5_36.toInt)) + 0))) I58_0 c71)) (by rw [(e124 : Int32.toInt x124 = (l2_58.toInt + 1)), (e127 : Int32.toInt x127 = (l6_58.toInt + 1))] <;> exact (z_X11_all_23 l2_58.toInt l5_36.toInt l6_58.toInt (sF (aI (G.2.1 (F a 10)) (10 * (aI (G21.2.1 (F a 15)) (l5_36.toInt)) + 0))) I58_1)) (by rw [(e127 : Int32.toInt x127 = (l6_58.toInt + 1))] <;> exact (z_X11_first_14 l6_58.toInt N58 hm58)) hT hS (lv_sub hl [4, 5, 1, 3, 2, 6, 0] rfl)
          exact L58 4294967297 l2_36 l3_36 l4_36 x53 _ _ _ (by rw [(t53 : Int32.toInt x53 = (sF (aI (G.2.1 (F a 10)) (10 * (aI (G21.2.1 (F a 15)) (l5_36.toInt)) + 0))))] <;> exact (v_X11_all_56_14 (F := F) a G G21 l2_36 l3_36 l4_36 l5_36 pa)) (by rw [(t53 : Int32.toInt x53 = (sF (aI (G.2.1 (F a 10)) (10 * (aI (G21.2.1 (F a 15)) (l5_36.toInt)) + 0))))] <;> exact (z_X11_all_41 (aI (G.2.1 (F a 10)) (10 * (aI (G21.2.1 (F a 15)) (l5_36.toInt)) + 0)) (sF (aI (G.2.1 (F a 10)) (10 * (aI (G21.2.1 (F a 15)) (l5_36.toInt)) + 0))) (sL (aI (G.2.1 (F a 10)) (10 * (aI (G21.2.1 (F a 15)) (l5_36.toInt)) + 0))) z45a)) (by rw [(t53 : Int32.toInt x53 = (sF (aI (G.2.1 (F a 10)) (10 * (aI (G21.2.1 (F a 15)) (l5_36.toInt)) + 0))))] <;> exact (z_X11_all_42 l2_36.toInt l5_36.toInt (sF (aI (G.2.1 (F a 10)) (10 * (aI (G21.2.1 (F a 15)) (l5_36.toInt)) + 0))) I36_1)) (by rw [(t53 : Int32.toInt x53 = (sF (aI (G.2.1 (F a 10)) (10 * (aI (G21.2.1 (F a 15)) (l5_36.toInt)) + 0))))] <;> exact (z_X11_all_43 (aI (G.2.1 (F a 10)) (10 * (aI (G21.2.1 (F a 15)) (l5_36.toInt)) + 0)) (sF (aI (G.2.1 (F a 10)) (10 * (aI (G21.2.1 (F a 15)) (l5_36.toInt)) + 0))) (sL (aI (G.2.1 (F a 10)) (10 * (aI (G21.2.1 (F a 15)) (l5_36.toInt)) + 0))) z45a)) hT hS (lv_sub hl [1, 2, 3, 4, 5, 6, 0] rfl)
    exact L36 4294967297 0 (-2147483648) (-2147483648) 0 _ _ _ (by rw [((by decide) : Int32.toInt (-2147483648) = (-2147483648 : Int))] <;> exact (v_X11_all_34_15 (F := F) a G)) (z_X11_all_44 ((G21.1 a 16).toInt) z24) (by decide) (by decide) hT hS (lv_sub hl [4, 5, 3, 2, 1, 0] rfl)
  · refine lv_ldc (v := (-2147483648)) hx hb S.2.2.2.1 (S.2.2.2.2 _ (List.mem_cons_of_mem _ kc_X11_57)) dX11_all_17 ?_
    exact x_ri hx hb hr hlk hQ (Nat.le_of_ble_eq_true rfl) (Nat.le_of_ble_eq_true rfl) hS dX11_all_19 G2 ⟨_, rfl, (by rw [hG2]; exact XFr.dput XFr.rf (List.mem_of_getElem? (i := 0) rfl)), (by rw [((by decide) : Int32.toInt (-2147483648) = (-2147483648 : Int))] <;> exact (v_X11_all_19_16 (K := K) (F := F) a G x11 p0 ha t11 c14))⟩ hT
/-! ===== what an act would tell ===== -/
def AnsR (op r : Int) (l : List Qt) : Prop := (r = -5 ∧ ∃ x, x ∈ l ∧ x.2.2.2.2.2 ≠ 0 ∧ (op = 0 ∨ x.2.2.2.2.1 = 0)) ∨ (r = ((l.length : Nat) : Int) ∧ ∀ x, x ∈ l → x.2.2.2.2.2 ≠ 0 → op ≠ 0 ∧ x.2.2.2.2.1 ≠ 0)
theorem AnsR.act {op r : Int} {l : List Qt} (h : AnsR op r l) (n0 p : Int → Int) : ∃ (n1 : Int → Int) (w1 : List Qt), ActR op r l n0 n1 p [] w1 [] := by
  rcases h with ⟨e, x, hx, f, g⟩ | ⟨e, h⟩
  · refine ⟨n0, [], Or.inl ⟨?_, e, rfl, rfl⟩⟩
    by_cases l0 : x.2.2.2.2.1 = 0
    · exact Or.inl ⟨x, hx, l0, f⟩
    · exact Or.inr ⟨g.resolve_right l0, x, hx, l0, f⟩
  · refine ⟨p, [], Or.inr ⟨fun x hx l0 => ?_, fun o x hx l0 => ?_, e, rfl, fun _ => rfl, fun _ => rfl⟩⟩
    · exact Classical.byContradiction (fun q => (h x hx q).2 l0)
    · exact Classical.byContradiction (fun q => (h x hx q).1 o)
def AnsM (op r : Int) (f : Nat → Int32) (r1 r2 : Int → Int) : Prop := ((ffP f r2 (fuO f r1 r2 0) ≠ -1 ∨ (op = 0 ∧ ffP f r2 (fuO f r1 r2 1) ≠ -1)) ∧ r = -5) ∨ (ffP f r2 (fuO f r1 r2 0) = -1 ∧ (op = 0 → ffP f r2 (fuO f r1 r2 1) = -1) ∧ r = (((fuO f r1 r2 2).length : Nat) : Int))
theorem AnsM.st {op r : Int} {f : Nat → Int32} {r1 r2 : Int → Int} (h : AnsM op r f r1 r2) : ∃ r3 : Int → Int, StR op r f r1 r2 r3 := by
  rcases h with ⟨a, e⟩ | ⟨a, b, e⟩
  · exact ⟨r1, Or.inl ⟨a, e, rfl⟩⟩
  · exact ⟨r2, Or.inr ⟨a, b, e, rfl⟩⟩
section
/-! ===== who leans on whom: what was reached ===== -/
def inR (u k : Int) : Prop := (0 ≤ u ∧ u < 3) ∧ (0 ≤ k ∧ k < 30)
/-- the row (u, k) refers to the row (t, j) by one of the first n rules: the class's list, the reference's numbers -/
def lnC (G : XG) (b : Nat → Option Nat) (r : Int → Int) (n u k t j : Int) : Prop := ∃ i q : Nat, (i : Int) < n ∧ b i = some q ∧ (G.1 q 0).toInt = 1 ∧ (G.1 q 4).toInt = t ∧ (G.1 q 2).toInt = u ∧ cel r u k (G.1 q 3).toInt = j
def lnM (f : Nat → Int32) (r : Int → Int) (n u k t j : Int) : Prop := ∃ q : Int, (0 ≤ q ∧ q < n) ∧ aI f (10 * q + 0) = 1 ∧ aI f (10 * q + 3) = t ∧ aI f (10 * q + 1) = u ∧ cel r u k (aI f (10 * q + 2)) = j
/-- all that one comes to from (t, j); the same, one step at least -/
def RCH (L : Int → Int → Int → Int → Prop) (t j u k : Int) : Prop := ∀ S : Int → Int → Prop, S t j → (∀ u k t2 j2 : Int, inR u k → S t2 j2 → L u k t2 j2 → S u k) → S u k
def RC1 (L : Int → Int → Int → Int → Prop) (t j u k : Int) : Prop := ∀ S : Int → Int → Prop, (∀ u k : Int, inR u k → L u k t j → S u k) → (∀ u k t2 j2 : Int, inR u k → S t2 j2 → L u k t2 j2 → S u k) → S u k
theorem RCH.self (L : Int → Int → Int → Int → Prop) (t j : Int) : RCH L t j t j := fun _ h _ => h
theorem RCH.go {L : Int → Int → Int → Int → Prop} {t j u k t2 j2 : Int} (h : RCH L t j t2 j2) (hi : inR u k) (hl : L u k t2 j2) : RCH L t j u k := fun S h0 h1 => h1 u k t2 j2 hi (h S h0 h1) hl
theorem RC1.one {L : Int → Int → Int → Int → Prop} {t j u k : Int} (hi : inR u k) (hl : L u k t j) : RC1 L t j u k := fun _ h0 _ => h0 u k hi hl
theorem RC1.go {L : Int → Int → Int → Int → Prop} {t j u k t2 j2 : Int} (h : RC1 L t j t2 j2) (hi : inR u k) (hl : L u k t2 j2) : RC1 L t j u k := fun S h0 h1 => h1 u k t2 j2 hi (h S h0 h1) hl
theorem RC1.rch {L : Int → Int → Int → Int → Prop} {t j u k : Int} (h : RC1 L t j u k) : RCH L t j u k := fun S h0 h1 => h S (fun u k hi hl => h1 u k t j hi h0 hl) h1
theorem RCH.rc1 {L : Int → Int → Int → Int → Prop} {t j u k : Int} (h : RCH L t j u k) : (u = t ∧ k = j) ∨ RC1 L t j u k := h (fun u k => (u = t ∧ k = j) ∨ RC1 L t j u k) (Or.inl ⟨rfl, rfl⟩) (fun u k t2 j2 hi hs hl => by
  rcases hs with ⟨e1, e2⟩ | hs
  · subst e1 e2; exact Or.inr (RC1.one hi hl)
  · exact Or.inr (hs.go hi hl))
theorem RCH.cg {L M : Int → Int → Int → Int → Prop} {t j u k : Int} (h : RCH L t j u k) (e : ∀ u k t2 j2 : Int, L u k t2 j2 → M u k t2 j2) : RCH M t j u k := fun S h0 h1 => h S h0 (fun u k t2 j2 hi hs hl => h1 u k t2 j2 hi hs (e u k t2 j2 hl))
/-- the bits b, the list (x, y) of n rows: the same rows, each once -/
def LIv (b x y : Int → Int) (n : Int) : Prop := n = toB b 3 ∧ (∀ z : Int, 0 ≤ z → z < n → inR (x z) (y z) ∧ bI (b (x z)) (y z) = 1) ∧ ∀ u k : Int, inR u k → bI (b u) k = 1 → ∃ z : Int, 0 ≤ z ∧ z < n ∧ x z = u ∧ y z = k
def LGo (b x y : Int → Int) (n : Int) (b2 x2 y2 : Int → Int) (n2 : Int) (P : Int → Int → Prop) : Prop := LIv b2 x2 y2 n2 ∧ n ≤ n2 ∧ (∀ z : Int, 0 ≤ z → z < n → x2 z = x z ∧ y2 z = y z) ∧ ∀ u k : Int, inR u k → (bI (b2 u) k = 1 ↔ bI (b u) k = 1 ∨ P u k)
theorem toB_3 (b : Int → Int) : toB b 3 = szB b 0 + szB b 1 + szB b 2 := by
  show 0 + szB b ((0 : Nat) : Int) + szB b ((1 : Nat) : Int) + szB b ((2 : Nat) : Int) = _
  show 0 + szB b 0 + szB b 1 + szB b 2 = _
  omega
theorem bsm_lt {f : Int → Int} {i : Nat} : ∀ n : Nat, (∀ k : Nat, k < n → f k = 0 ∨ f k = 1) → i < n → f i = 0 → bsm f n ≤ (n : Int) - 1
  | 0, _, hi, _ => absurd hi (Nat.not_lt_zero i)
  | n + 1, h, hi, h0 => by
    have hn := h n (by omega)
    show bsm f n + f n ≤ ((n + 1 : Nat) : Int) - 1
    by_cases e : i = n
    · subst e
      have := (bsm_b i (fun k hk => h k (by omega))).2
      omega
    · have := bsm_lt n (fun k hk => h k (by omega)) (by omega) h0
      omega
theorem bsm_set {f g : Int → Int} {i : Nat} : ∀ n : Nat, i < n → f i = 0 → g i = 1 → (∀ k : Nat, k < n → k ≠ i → g k = f k) → bsm g n = bsm f n + 1
  | 0, hi, _, _, _ => absurd hi (Nat.not_lt_zero i)
  | n + 1, hi, h0, h1, h => by
    show bsm g n + g n = bsm f n + f n + 1
    by_cases e : i = n
    · subst e
      have := bsm_cg (f := g) (g := f) i (fun k hk => h k (by omega) (by omega))
      omega
    · have h2 := bsm_set n (by omega) h0 h1 (fun k hk hne => h k (by omega) hne)
      have h3 := h n (by omega) (fun q => e q.symm)
      omega
theorem LIv.b {b x y : Int → Int} {n : Int} (h : LIv b x y n) : 0 ≤ n ∧ n ≤ 90 := by
  have e := h.1
  rw [toB_3] at e
  have h0 := szB_b b 0
  have h1 := szB_b b 1
  have h2 := szB_b b 2
  omega
theorem szB_lt {b : Int → Int} {u k : Int} (hk : 0 ≤ k ∧ k < 30) (h0 : bI (b u) k = 0) : szB b u ≤ 29 := by
  have e : ((k.toNat : Nat) : Int) = k := by omega
  have h := bsm_lt (f := bI (b u)) (i := k.toNat) 30 (fun k _ => bI01 (b u) k) (by omega) (by rw [e]; exact h0)
  exact h
theorem LIv.lt {b x y : Int → Int} {n u k : Int} (h : LIv b x y n) (hi : inR u k) (h0 : bI (b u) k = 0) : n ≤ 89 := by
  have e := h.1
  rw [toB_3] at e
  have q := szB_lt hi.2 h0
  have h0 := szB_b b 0
  have h1 := szB_b b 1
  have h2 := szB_b b 2
  have hu : u = 0 ∨ u = 1 ∨ u = 2 := by have := hi.1; omega
  rcases hu with g | g | g <;> rw [g] at q <;> omega
theorem LIv_0 {b x y : Int → Int} {n : Int} (hb : ∀ t : Int, 0 ≤ t → t < 3 → b t = 0) (hn : n = 0) : LIv b x y n := by
  have z : ∀ t : Int, 0 ≤ t → t < 3 → szB b t = 0 := fun t h0 h1 => by
    unfold szB
    rw [hb t h0 h1]
    have e := bsm_cg (f := bI 0) (g := fun _ => 0) 30 (fun k _ => bI_0 _)
    rw [e]
    rfl
  refine ⟨?_, fun z0 h0 h1 => by omega, fun u k hi h1 => ?_⟩
  · rw [toB_3, z 0 (by decide) (by decide), z 1 (by decide) (by decide), z 2 (by decide) (by decide), hn]
    rfl
  · rw [hb u hi.1.1 hi.1.2, bI_0] at h1
    exact absurd h1 (by decide)
theorem LGo_same {b x y : Int → Int} {n : Int} {P : Int → Int → Prop} (h : LIv b x y n) (hp : ∀ u k : Int, inR u k → P u k → bI (b u) k = 1) : LGo b x y n b x y n P := ⟨h, Int.le_refl n, fun _ _ _ => ⟨rfl, rfl⟩, fun u k hi => ⟨Or.inl, fun q => q.elim id (hp u k hi)⟩⟩
theorem LGo.tr {b x y b2 x2 y2 b3 x3 y3 : Int → Int} {n n2 n3 : Int} {P Q R : Int → Int → Prop} (h : LGo b x y n b2 x2 y2 n2 P) (g : LGo b2 x2 y2 n2 b3 x3 y3 n3 Q) (hR : ∀ u k : Int, inR u k → (R u k ↔ P u k ∨ Q u k)) : LGo b x y n b3 x3 y3 n3 R := by
  obtain ⟨h1, h2, h3, h4⟩ := h
  obtain ⟨g1, g2, g3, g4⟩ := g
  refine ⟨g1, Int.le_trans h2 g2, fun z z0 z1 => ?_, fun u k hi => ?_⟩
  · have a := h3 z z0 z1
    have c := g3 z z0 (by omega)
    exact ⟨c.1.trans a.1, c.2.trans a.2⟩
  · rw [g4 u k hi, h4 u k hi, hR u k hi, or_assoc]
theorem LGo.cg {b x y b2 x2 y2 : Int → Int} {n n2 : Int} {P Q : Int → Int → Prop} (h : LGo b x y n b2 x2 y2 n2 P) (e : ∀ u k : Int, inR u k → (Q u k ↔ P u k)) : LGo b x y n b2 x2 y2 n2 Q := ⟨h.1, h.2.1, h.2.2.1, fun u k hi => by rw [h.2.2.2 u k hi, e u k hi]⟩
theorem LGo_add {b x y b2 x2 y2 : Int → Int} {n n2 u k : Int} (h : LIv b x y n) (hi : inR u k) (h0 : bI (b u) k = 0) (hn : n2 = n + 1) (hb : ∀ t : Int, 0 ≤ t → t ≠ u → b2 t = b t) (hb2 : ∀ j : Int, 0 ≤ j → j < 32 → bI (b2 u) j = if j = k then 1 else bI (b u) j) (hx : ∀ z : Int, 0 ≤ z → x2 z = if z = n then u else x z) (hy : ∀ z : Int, 0 ≤ z → y2 z = if z = n then k else y z) : LGo b x y n b2 x2 y2 n2 (fun u2 k2 => u2 = u ∧ k2 = k) := by
  have hnb := h.b
  have bit : ∀ u2 k2 : Int, inR u2 k2 → (bI (b2 u2) k2 = 1 ↔ bI (b u2) k2 = 1 ∨ (u2 = u ∧ k2 = k)) := by
    intro u2 k2 hi2
    by_cases e : u2 = u
    · rw [e, hb2 k2 hi2.2.1 (by have := hi2.2.2; omega)]
      by_cases e2 : k2 = k
      · rw [if_pos e2]; exact ⟨fun _ => Or.inr ⟨rfl, e2⟩, fun _ => rfl⟩
      · rw [if_neg e2]; exact ⟨Or.inl, fun q => q.elim id (fun w => absurd w.2 e2)⟩
    · rw [hb u2 hi2.1.1 e]; exact ⟨Or.inl, fun q => q.elim id (fun w => absurd w.1 e)⟩
  have szs : szB b2 u = szB b u + 1 := by
    have ek : ((k.toNat : Nat) : Int) = k := by have := hi.2; omega
    refine bsm_set (f := bI (b u)) (g := bI (b2 u)) (i := k.toNat) 30 (by have := hi.2; omega) (by rw [ek]; exact h0) (by rw [ek, hb2 k hi.2.1 (by have := hi.2; omega), if_pos rfl]) (fun j hj hne => ?_)
    rw [hb2 (j : Int) (by omega) (by omega), if_neg (by omega)]
  have szo : ∀ t : Int, 0 ≤ t → t ≠ u → szB b2 t = szB b t := fun t t0 hne => by unfold szB; rw [hb t t0 hne]
  have eT : toB b2 3 = toB b 3 + 1 := by
    rw [toB_3, toB_3]
    have hu : u = 0 ∨ u = 1 ∨ u = 2 := by have := hi.1; omega
    rcases hu with g | g | g
    · rw [g] at szs; have q1 := szo 1 (by decide) (by omega); have q2 := szo 2 (by decide) (by omega); omega
    · rw [g] at szs; have q1 := szo 0 (by decide) (by omega); have q2 := szo 2 (by decide) (by omega); omega
    · rw [g] at szs; have q1 := szo 0 (by decide) (by omega); have q2 := szo 1 (by decide) (by omega); omega
  have old : ∀ z : Int, 0 ≤ z → z < n → x2 z = x z ∧ y2 z = y z := fun z z0 z1 => ⟨by rw [hx z z0, if_neg (by omega)], by rw [hy z z0, if_neg (by omega)]⟩
  have new : x2 n = u ∧ y2 n = k := ⟨by rw [hx n hnb.1, if_pos rfl], by rw [hy n hnb.1, if_pos rfl]⟩
  refine ⟨⟨by rw [hn, eT, ← h.1], fun z z0 z1 => ?_, fun u2 k2 hi2 q => ?_⟩, by omega, old, bit⟩
  · by_cases e : z = n
    · rw [e, new.1, new.2]
      exact ⟨hi, (bit u k hi).mpr (Or.inr ⟨rfl, rfl⟩)⟩
    · obtain ⟨e1, e2⟩ := old z z0 (by omega)
      obtain ⟨a, c⟩ := h.2.1 z z0 (by omega)
      rw [e1, e2]
      exact ⟨a, (bit _ _ a).mpr (Or.inl c)⟩
  · rcases (bit u2 k2 hi2).mp q with w | ⟨w1, w2⟩
    · obtain ⟨z, z0, z1, e1, e2⟩ := h.2.2 u2 k2 hi2 w
      obtain ⟨o1, o2⟩ := old z z0 z1
      exact ⟨z, z0, by omega, o1.trans e1, o2.trans e2⟩
    · exact ⟨n, hnb.1, by omega, new.1.trans w1.symm, new.2.trans w2.symm⟩
/-- a rule more -/
theorem lnC_s {G : XG} {b : Nat → Option Nat} {r : Int → Int} {n u k t j : Int} (hn : 0 ≤ n) : lnC G b r (n + 1) u k t j ↔ lnC G b r n u k t j ∨ ∃ q : Nat, b n.toNat = some q ∧ (G.1 q 0).toInt = 1 ∧ (G.1 q 4).toInt = t ∧ (G.1 q 2).toInt = u ∧ cel r u k (G.1 q 3).toInt = j := by
  constructor
  · rintro ⟨i, q, hi, h⟩
    by_cases e : (i : Int) < n
    · exact Or.inl ⟨i, q, e, h⟩
    · have e2 : n.toNat = i := by omega
      exact Or.inr ⟨q, by rw [e2]; exact h.1, h.2⟩
  · rintro (⟨i, q, hi, h⟩ | ⟨q, h⟩)
    · exact ⟨i, q, by omega, h⟩
    · exact ⟨n.toNat, q, by omega, h⟩
theorem lnC_0 {G : XG} {b : Nat → Option Nat} {r : Int → Int} {n u k t j : Int} (hn : n ≤ 0) : ¬ lnC G b r n u k t j := by
  rintro ⟨i, q, hi, -⟩
  omega
theorem lnM_s {f : Nat → Int32} {r : Int → Int} {n u k t j : Int} (hn : 0 ≤ n) : lnM f r (n + 1) u k t j ↔ lnM f r n u k t j ∨ (aI f (10 * n + 0) = 1 ∧ aI f (10 * n + 3) = t ∧ aI f (10 * n + 1) = u ∧ cel r u k (aI f (10 * n + 2)) = j) := by
  constructor
  · rintro ⟨q, hq, h⟩
    by_cases e : q < n
    · exact Or.inl ⟨q, ⟨hq.1, e⟩, h⟩
    · have e2 : q = n := by omega
      subst e2
      exact Or.inr h
  · rintro (⟨q, hq, h⟩ | h)
    · exact ⟨q, ⟨hq.1, by omega⟩, h⟩
    · exact ⟨n, ⟨hn, by omega⟩, h⟩
theorem lnM_0 {f : Nat → Int32} {r : Int → Int} {n u k t j : Int} (hn : n ≤ 0) : ¬ lnM f r n u k t j := by
  rintro ⟨q, hq, -⟩
  omega
/-- the search is through: all that one comes to is reached -/
theorem reach_all {L : Int → Int → Int → Int → Prop} {b x y : Int → Int} {n i t j : Int} (h : LIv b x y n) (hi : n ≤ i) (h0 : bI (b t) j = 1) (h1 : ∀ u k : Int, inR u k → bI (b u) k = 1 → RCH L t j u k) (h2 : ∀ z : Int, 0 ≤ z → z < i → ∀ u k : Int, inR u k → L u k (x z) (y z) → bI (b u) k = 1) (hj : inR t j) : ∀ u k : Int, inR u k → (bI (b u) k = 1 ↔ RCH L t j u k) := fun u k hi2 => ⟨h1 u k hi2, fun q => by
  refine (q (fun u k => inR u k ∧ bI (b u) k = 1) ⟨hj, h0⟩ (fun u k t2 j2 a s l => ⟨a, ?_⟩)).2
  obtain ⟨z, z0, z1, e1, e2⟩ := h.2.2 t2 j2 s.1 s.2
  refine h2 z z0 (by omega) u k a ?_
  rw [e1, e2]
  exact l⟩
/-- the set is a sum of bits -/
theorem toB_sm {b g : Int → Int} (h : ∀ u k : Int, inR u k → bI (b u) k = g (30 * u + k)) : toB b 3 = bsm g 90 := by
  have key : ∀ t : Nat, t < 3 → bsm (fun k => g (((30 * t : Nat) : Int) + k)) 30 = szB b t := fun t ht => bsm_cg 30 (fun k hk => by
    show g (((30 * t : Nat) : Int) + (k : Int)) = bI (b t) k
    rw [h (t : Int) (k : Int) ⟨by omega, by omega⟩, show ((30 * t : Nat) : Int) = 30 * (t : Int) by omega])
  have e1 : bsm g 90 = bsm g (30 + (30 + 30)) := rfl
  have k0 : bsm g 30 = szB b ((0 : Nat) : Int) := by
    rw [← key 0 (by decide)]
    exact bsm_cg 30 (fun k _ => by
      show g (k : Int) = g (((30 * 0 : Nat) : Int) + (k : Int))
      rw [show (((30 * 0 : Nat) : Int) + (k : Int)) = (k : Int) by omega])
  have k1 : bsm (fun k => g (((30 : Nat) : Int) + k)) 30 = szB b ((1 : Nat) : Int) := key 1 (by decide)
  have k2 : bsm (fun k => (fun k => g (((30 : Nat) : Int) + k)) (((30 : Nat) : Int) + k)) 30 = szB b ((2 : Nat) : Int) := by
    rw [← key 2 (by decide)]
    exact bsm_cg 30 (fun k _ => by
      show g (((30 : Nat) : Int) + (((30 : Nat) : Int) + (k : Int))) = g (((30 * 2 : Nat) : Int) + (k : Int))
      rw [show (((30 : Nat) : Int) + (((30 : Nat) : Int) + (k : Int))) = (((30 * 2 : Nat) : Int) + (k : Int)) by omega])
  rw [e1, bsm_add, bsm_add, k0, k1, k2, toB_3]
  show _ = szB b 0 + (szB b 1 + szB b 2)
  omega
/-- sums by an integer's bound -/
def bsI (g : Int → Int) (z : Int) : Int := bsm g z.toNat
theorem bsI_0 (g : Int → Int) : bsI g 0 = 0 := rfl
theorem bsI_s (g : Int → Int) {z : Int} (h : 0 ≤ z) : bsI g (z + 1) = bsI g z + g z := by
  have e : (z + 1).toNat = z.toNat + 1 := by omega
  have e2 : ((z.toNat : Nat) : Int) = z := by omega
  unfold bsI
  rw [e]
  show bsm g z.toNat + g ((z.toNat : Nat) : Int) = _
  rw [e2]
noncomputable def lnI (f : Nat → Int32) (r : Int → Int) (t j z : Int) : Int := by
  classical
  exact if lnM f r 12 (z / 30) (z % 30) t j then 1 else 0
theorem lnI_y {f : Nat → Int32} {r : Int → Int} {t j z : Int} (h : lnM f r 12 (z / 30) (z % 30) t j) : lnI f r t j z = 1 := by
  unfold lnI
  exact if_pos h
theorem lnI_n {f : Nat → Int32} {r : Int → Int} {t j z : Int} (h : ¬ lnM f r 12 (z / 30) (z % 30) t j) : lnI f r t j z = 0 := by
  unfold lnI
  exact if_neg h
def lnK (g : Int → Int) (s z : Int) : Int := if g z = 1 ∧ z ≠ s then 1 else 0
theorem lnK_st (g : Int → Int) (s z : Int) : (g z = 1 ∧ z ≠ s → lnK g s z = 1) ∧ (¬ (g z = 1 ∧ z ≠ s) → lnK g s z = 0) := ⟨fun h => if_pos h, fun h => if_neg h⟩
theorem lnC_cg {G u : XG} {b : Nat → Option Nat} {r : Int → Int} {n x k t j : Int} (hn : n ≤ 12) (h : ∀ i q : Nat, i < 12 → b i = some q → u.1 q = G.1 q) : lnC u b r n x k t j ↔ lnC G b r n x k t j := by
  constructor
  · rintro ⟨i, q, hi, hb, hh⟩
    rw [h i q (by omega) hb] at hh
    exact ⟨i, q, hi, hb, hh⟩
  · rintro ⟨i, q, hi, hb, hh⟩
    refine ⟨i, q, hi, hb, ?_⟩
    rw [h i q (by omega) hb]
    exact hh
/-! the reference's own reading of a row -/
def lnR (f g : Nat → Int32) (n u k t j : Int) : Prop := ∃ q : Int, (0 ≤ q ∧ q < n) ∧ aI f (10 * q + 0) = 1 ∧ aI f (10 * q + 3) = t ∧ aI f (10 * q + 1) = u ∧ aI g (4 * (30 * u + k) + 1 + aI f (10 * q + 2)) = j
theorem lnR_s {f g : Nat → Int32} {n u k t j : Int} (hn : 0 ≤ n) : lnR f g (n + 1) u k t j ↔ lnR f g n u k t j ∨ (aI f (10 * n + 0) = 1 ∧ aI f (10 * n + 3) = t ∧ aI f (10 * n + 1) = u ∧ aI g (4 * (30 * u + k) + 1 + aI f (10 * n + 2)) = j) := by
  constructor
  · rintro ⟨q, hq, h⟩
    by_cases e : q < n
    · exact Or.inl ⟨q, ⟨hq.1, e⟩, h⟩
    · have e2 : q = n := by omega
      subst e2
      exact Or.inr h
  · rintro (⟨q, hq, h⟩ | h)
    · exact ⟨q, ⟨hq.1, by omega⟩, h⟩
    · exact ⟨n, ⟨hn, by omega⟩, h⟩
theorem lnR_0 {f g : Nat → Int32} {n u k t j : Int} (hn : n ≤ 0) : ¬ lnR f g n u k t j := by
  rintro ⟨q, hq, -⟩
  omega
theorem lnM_R {f g : Nat → Int32} {n u k t j : Int} (hR : RV f) (hM : RM g 0) (h0 : inR u k) (hn : n ≤ 12) (hj : 0 ≤ j) (h : lnM f (mw g 0) n u k t j) : lnR f g n u k t j := by
  obtain ⟨q, hq, h1, h2, h3, h4⟩ := h
  obtain ⟨-, -, c1, -⟩ := hR q hq.1 (by omega)
  refine ⟨q, hq, h1, h2, h3, ?_⟩
  have e9 : 4 * (30 * u + k) + 1 + aI f (10 * q + 2) = 0 + 4 * (30 * u + k) + 1 + aI f (10 * q + 2) := by omega
  rw [e9]
  rcases hM.okc (t := u) (k := k) (c := aI f (10 * q + 2)) ⟨h0.1.1, h0.1.2, h0.2.1, h0.2.2, c1.1, by omega⟩ with ⟨-, e⟩ | ⟨-, e, -⟩
  · rw [h4] at e; omega
  · rw [← e]; exact h4
theorem lnR_M {f g : Nat → Int32} {n u k t j : Int} (hR : RV f) (hM : RM g 0) (h0 : inR u k) (hn : n ≤ 12) (hp : cel (mw g 0) u k 0 ≠ -2000) (h : lnR f g n u k t j) : lnM f (mw g 0) n u k t j := by
  obtain ⟨q, hq, h1, h2, h3, h4⟩ := h
  obtain ⟨-, -, c1, -⟩ := hR q hq.1 (by omega)
  refine ⟨q, hq, h1, h2, h3, ?_⟩
  have e9 : 4 * (30 * u + k) + 1 + aI f (10 * q + 2) = 0 + 4 * (30 * u + k) + 1 + aI f (10 * q + 2) := by omega
  rw [e9] at h4
  rcases hM.okc (t := u) (k := k) (c := aI f (10 * q + 2)) ⟨h0.1.1, h0.1.2, h0.2.1, h0.2.2, c1.1, by omega⟩ with ⟨-, e⟩ | ⟨-, e, -⟩
  · exact absurd ((hM.absent u k (aI f (10 * q + 2)) ⟨c1.1, by omega⟩).mp e) hp
  · rw [e]; exact h4
theorem lnM_no {f g : Nat → Int32} {n u k t j : Int} (hM : RM g 0) (hp : cel (mw g 0) u k 0 = -2000) (hj : 0 ≤ j) : ¬ lnM f (mw g 0) n u k t j := by
  rintro ⟨q, -, -, -, -, h4⟩
  by_cases c1 : 0 ≤ aI f (10 * q + 2) ∧ aI f (10 * q + 2) < 3
  · have e := (hM.absent u k (aI f (10 * q + 2)) c1).mpr hp
    rw [h4] at e; omega
  · have e : cel (mw g 0) u k (aI f (10 * q + 2)) = -2000 := cel_out (fun h => c1 ⟨h.2.2.2.2.1, h.2.2.2.2.2⟩)
    rw [h4] at e; omega
/-! the reference's marks: those that lean straight, those that lean by others, till none comes -/
def LQ (f : Nat → Int32) (r : Int → Int) (t j : Int) (g : Int → Int) : Prop := (∀ z : Int, 0 ≤ z → z < 90 → g z = 0 ∨ g z = 1) ∧ (∀ z : Int, 0 ≤ z → z < 90 → lnM f r 12 (z / 30) (z % 30) t j → g z = 1) ∧ ∀ z : Int, 0 ≤ z → z < 90 → g z = 1 → RC1 (lnM f r 12) t j (z / 30) (z % 30)
def LZ (f : Nat → Int32) (r g : Int → Int) (i o : Int) : Prop := (∀ z y : Int, 0 ≤ z → z < i → 0 ≤ y → y < 90 → g z = 0 → g y = 1 → ¬ lnM f r 12 (z / 30) (z % 30) (y / 30) (y % 30)) ∧ ∀ y : Int, 0 ≤ y → y < o → g i = 0 → g y = 1 → ¬ lnM f r 12 (i / 30) (i % 30) (y / 30) (y % 30)
section LEANS
variable {f : Nat → Int32} {r g g2 : Int → Int} {t j i o : Int}
theorem inR_z {z : Int} (h0 : 0 ≤ z) (h1 : z < 90) : inR (z / 30) (z % 30) := ⟨by omega, by omega⟩
theorem LQ_0 {n : Int} (h : ∀ z : Int, 0 ≤ z → z < n → (g z = 1 ∧ lnM f r 12 (z / 30) (z % 30) t j) ∨ (g z = 0 ∧ ¬ lnM f r 12 (z / 30) (z % 30) t j)) (hn : 90 ≤ n) : LQ f r t j g := by
  refine ⟨fun z z0 z1 => ?_, fun z z0 z1 hl => ?_, fun z z0 z1 hg => ?_⟩
  · rcases h z z0 (by omega) with ⟨a, -⟩ | ⟨a, -⟩
    · exact Or.inr a
    · exact Or.inl a
  · rcases h z z0 (by omega) with ⟨a, -⟩ | ⟨-, a⟩
    · exact a
    · exact absurd hl a
  · rcases h z z0 (by omega) with ⟨-, a⟩ | ⟨a, -⟩
    · exact RC1.one (inR_z z0 z1) a
    · rw [hg] at a; exact absurd a (by decide)
theorem LZ_0 : LZ f r g 0 0 := ⟨fun z y h0 h1 => absurd h0 (by omega), fun y h0 h1 => absurd h0 (by omega)⟩
theorem LZ_new (h : ∀ z y : Int, 0 ≤ z → z < i → 0 ≤ y → y < 90 → g z = 0 → g y = 1 → ¬ lnM f r 12 (z / 30) (z % 30) (y / 30) (y % 30)) : LZ f r g i 0 := ⟨h, fun y h0 h1 => absurd h0 (by omega)⟩
theorem LZ_row (h : LZ f r g i o) (ho : 90 ≤ o) : LZ f r g (i + 1) 0 := ⟨fun z y z0 z1 y0 y1 a c => by
  by_cases e : z = i
  · subst e; exact h.2 y y0 (by omega) a c
  · exact h.1 z y z0 (by omega) y0 y1 a c, fun y h0 h1 => absurd h0 (by omega)⟩
theorem LZ_one (h : ∀ z y : Int, 0 ≤ z → z < i → 0 ≤ y → y < 90 → g z = 0 → g y = 1 → ¬ lnM f r 12 (z / 30) (z % 30) (y / 30) (y % 30)) (hi : g i ≠ 0) : LZ f r g (i + 1) 0 := ⟨fun z y z0 z1 y0 y1 a c => by
  by_cases e : z = i
  · subst e; exact absurd a hi
  · exact h z y z0 (by omega) y0 y1 a c, fun y h0 h1 => absurd h0 (by omega)⟩
theorem LZ_skip (h : LZ f r g i o) (ho : g o ≠ 1 ∨ ¬ lnM f r 12 (i / 30) (i % 30) (o / 30) (o % 30)) : LZ f r g i (o + 1) := ⟨h.1, fun y y0 y1 a c => by
  by_cases e : y = o
  · subst e
    rcases ho with ho | ho
    · exact absurd c ho
    · exact ho
  · exact h.2 y y0 (by omega) a c⟩
theorem LQ_set (h : LQ f r t j g) (hi : 0 ≤ i ∧ i < 90) (ho : 0 ≤ o ∧ o < 90) (hl : lnM f r 12 (i / 30) (i % 30) (o / 30) (o % 30)) (hg : g o = 1) (hs : ∀ z : Int, 0 ≤ z → g2 z = if z = i then 1 else g z) : LQ f r t j g2 := by
  obtain ⟨h1, h2, h3⟩ := h
  refine ⟨fun z z0 z1 => ?_, fun z z0 z1 q => ?_, fun z z0 z1 q => ?_⟩
  · rw [hs z z0]
    by_cases e : z = i
    · rw [if_pos e]; exact Or.inr rfl
    · rw [if_neg e]; exact h1 z z0 z1
  · rw [hs z z0]
    by_cases e : z = i
    · rw [if_pos e]
    · rw [if_neg e]; exact h2 z z0 z1 q
  · rw [hs z z0] at q
    by_cases e : z = i
    · subst e; exact (h3 o ho.1 ho.2 hg).go (inR_z z0 z1) hl
    · rw [if_neg e] at q; exact h3 z z0 z1 q
theorem LQ_end (h : LQ f r t j g) (hz : LZ f r g 90 0) : ∀ z : Int, 0 ≤ z → z < 90 → (g z = 1 ↔ RC1 (lnM f r 12) t j (z / 30) (z % 30)) := by
  obtain ⟨h1, h2, h3⟩ := h
  intro z z0 z1
  refine ⟨h3 z z0 z1, fun q => ?_⟩
  have key : ∀ u k : Int, inR u k → (30 * u + k) / 30 = u ∧ (30 * u + k) % 30 = k ∧ 0 ≤ 30 * u + k ∧ 30 * u + k < 90 := fun u k hi => by
    obtain ⟨a, c⟩ := hi
    omega
  have e := q (fun u k => inR u k ∧ g (30 * u + k) = 1) (fun u k hi hl => ⟨hi, by
    obtain ⟨e1, e2, e3, e4⟩ := key u k hi
    refine h2 _ e3 e4 ?_
    rw [e1, e2]
    exact hl⟩) (fun u k t2 j2 hi hs hl => ⟨hi, by
    obtain ⟨e1, e2, e3, e4⟩ := key u k hi
    obtain ⟨d1, d2, d3, d4⟩ := key t2 j2 hs.1
    rcases h1 _ e3 e4 with a | a
    · exfalso
      refine hz.1 _ _ e3 e4 d3 d4 a hs.2 ?_
      rw [e1, e2, d1, d2]
      exact hl
    · exact a⟩)
  have e2 := e.2
  rw [show 30 * (z / 30) + z % 30 = z by omega] at e2
  exact e2
end LEANS
/-! ===== rows that would go, values that would become NULL ===== -/
def nn1 (p v : Int → Int) (z : Int) : Int := if p z = -1000 ∧ v z ≠ -1000 then 1 else 0
theorem nn1_st (p v : Int → Int) (z : Int) : (p z = -1000 ∧ v z ≠ -1000 → nn1 p v z = 1) ∧ (¬ (p z = -1000 ∧ v z ≠ -1000) → nn1 p v z = 0) := ⟨fun h => if_pos h, fun h => if_neg h⟩
def clA (f0 f1 : Nat → Int32) (x c : Int) : Int := if aI f1 x = 1 ∧ aI f0 (x + c) ≠ aI f1 (x + c) then 1 else 0
theorem clA_st (f0 f1 : Nat → Int32) (x c : Int) : (aI f1 x = 1 ∧ aI f0 (x + c) ≠ aI f1 (x + c) → clA f0 f1 x c = 1) ∧ (¬ (aI f1 x = 1 ∧ aI f0 (x + c) ≠ aI f1 (x + c)) → clA f0 f1 x c = 0) := ⟨fun h => if_pos h, fun h => if_neg h⟩
def clR (f0 f1 : Nat → Int32) (x z : Int) : Int := smS (clA f0 f1 x) 1 z
theorem clR_0 (f0 f1 : Nat → Int32) (x : Int) : clR f0 f1 x 1 = 0 := smS_0 _ _
theorem clR_s (f0 f1 : Nat → Int32) (x : Int) {z : Int} (h : 1 ≤ z) : clR f0 f1 x (z + 1) = clR f0 f1 x z + clA f0 f1 x z := smS_s h
theorem clR_4 (f0 f1 : Nat → Int32) (x : Int) : clR f0 f1 x 4 = clA f0 f1 x 1 + clA f0 f1 x 2 + clA f0 f1 x 3 := by
  have h1 := clR_s f0 f1 x (z := 1) (by decide)
  have h2 := clR_s f0 f1 x (z := 2) (by decide)
  have h3 := clR_s f0 f1 x (z := 3) (by decide)
  have h0 := clR_0 f0 f1 x
  rw [show (3 : Int) + 1 = 4 from by decide] at h3
  rw [show (2 : Int) + 1 = 3 from by decide] at h2
  rw [show (1 : Int) + 1 = 2 from by decide] at h1
  omega
theorem clR_z {f0 f1 : Nat → Int32} {x z : Int} (h : aI f1 x ≠ 1) (hz : 1 ≤ z ∧ z ≤ 4) : clR f0 f1 x 4 = clR f0 f1 x z := by
  have h1 := clR_s f0 f1 x (z := 1) (by decide)
  have h2 := clR_s f0 f1 x (z := 2) (by decide)
  have h3 := clR_s f0 f1 x (z := 3) (by decide)
  have h0 := clR_0 f0 f1 x
  rw [show (3 : Int) + 1 = 4 from by decide] at h3
  rw [show (2 : Int) + 1 = 3 from by decide] at h2
  rw [show (1 : Int) + 1 = 2 from by decide] at h1
  have c1 := (clA_st f0 f1 x 1).2 (fun q => h q.1)
  have c2 := (clA_st f0 f1 x 2).2 (fun q => h q.1)
  have c3 := (clA_st f0 f1 x 3).2 (fun q => h q.1)
  have hc : z = 1 ∨ z = 2 ∨ z = 3 ∨ z = 4 := by omega
  rcases hc with e | e | e | e
  · rw [e]; omega
  · rw [e]; omega
  · rw [e]; omega
  · rw [e]
def clT (f0 f1 : Nat → Int32) (z : Int) : Int := bsI (fun j => clR f0 f1 (4 * j) 4) (z / 4)
theorem clT_0 (f0 f1 : Nat → Int32) : clT f0 f1 0 = 0 := rfl
theorem clT_s (f0 f1 : Nat → Int32) {z : Int} (h : 0 ≤ z) (h4 : z % 4 = 0) : clT f0 f1 (z + 4) = clT f0 f1 z + clR f0 f1 z 4 := by
  unfold clT
  rw [show (z + 4) / 4 = z / 4 + 1 by omega, bsI_s _ (by omega)]
  show _ + clR f0 f1 (4 * (z / 4)) 4 = _
  rw [show 4 * (z / 4) = z by omega]
end
theorem v_X11_wouldTell_1_1 {F : Nat → Nat → Nat} (a : Nat) (G : XG)
    (hR : RV (G.2.1 (F a 10))) :
    RV (G.2.1 (F a 10)) := by exact hR
theorem v_X11_wouldTell_1_2 {F : Nat → Nat → Nat} (a : Nat) (G : XG)
    (hM : RM (G.2.1 (F a 1)) (0)) :
    RM (G.2.1 (F a 1)) (0) := by exact hM
theorem v_X11_wouldTell_1_3 {F : Nat → Nat → Nat} (a : Nat) (G : XG) (r1 : Int → Int)
    (h1 : LSt (G.2.1 (F a 10)) (G.2.1 (F a 12)) r1 12) :
    LSt (G.2.1 (F a 10)) (G.2.1 (F a 12)) r1 12 := by exact h1
theorem v_X11_wouldTell_49_4 {K : Nat → Nat} {F : Nat → Nat → Nat} (a : Nat) (G : XG) (G1 : XG) (r1 : Int → Int) (x1 : Int32)
    (ha : K a = 13)
    (hk9999 : K (F a 15) = 42)
    (hj9999 : F (F a 15) 99 = 15)
    (hk9999a : K (F a 17) = 43)
    (hj9999a : F (F a 17) 99 = 17)
    (hk9999b : K (F a 18) = 44)
    (hj9999b : F (F a 18) 99 = 18)
    (hk9999c : K (F a 11) = 38)
    (hj9999c : F (F a 11) 99 = 11)
    (hk9999d : K (F a 1) = 30)
    (hj9999d : F (F a 1) 99 = 1)
    (hk9999e : K (F a 4) = 31)
    (hj9999e : F (F a 4) 99 = 4)
    (hk9999f : K (F a 10) = 37)
    (hj9999f : F (F a 10) 99 = 10)
    (hk9999g : K (F a 12) = 38)
    (hj9999g : F (F a 12) 99 = 12)
    (hF1 : XFr [(a, 16), (a, 19), (a, 45), (a, 46)] [F a 15, F a 17, F a 18, F a 11] [] G G1)
    (hR : RV (G.2.1 (F a 10)))
    (hM : RM (G.2.1 (F a 1)) (0))
    (hA : RM (G.2.1 (F a 4)) 0)
    (h1 : LSt (G.2.1 (F a 10)) (G.2.1 (F a 12)) r1 12)
    (oq1 : ((G1.1 a 45).toInt) = (((fuO (G.2.1 (F a 10)) r1 (mw (G.2.1 (F a 1)) 0) 2).length : Nat) : Int))
    (oq1a : pL G1 F a = fuO (G.2.1 (F a 10)) r1 (mw (G.2.1 (F a 1)) 0) 0)
    (oq1b : x1.toInt = ffP (G.2.1 (F a 10)) (mw (G.2.1 (F a 1)) 0) (fuO (G.2.1 (F a 10)) r1 (mw (G.2.1 (F a 1)) 0) 0))
    (oq1c : ((G1.1 a 46).toInt) = x1.toInt)
    (oq1d : LSt (G.2.1 (F a 10)) (G1.2.1 (F a 11)) (mw (G.2.1 (F a 1)) 0) 12)
    (oq1e : 0 ≤ ((G1.1 a 19).toInt) ∧ ((G1.1 a 19).toInt) ≤ 2388 ∧ -1 ≤ x1.toInt ∧ x1.toInt < ((G1.1 a 19).toInt))
    (c5 : x1.toInt = (-1 : Int))
    (f29 : ((G.1 a 6).toInt) = 0 ∨ ((G.1 a 6).toInt) = 1)
    (c17 : ((G.1 a 6).toInt) ≠ 0)
    (c_G1_F_a_1 : G1.2.1 (F a 1) = G.2.1 (F a 1))
    (c_G1_F_a_4 : G1.2.1 (F a 4) = G.2.1 (F a 4)) :
    (F a 4) ≠ (F a 1) := by
  intro e
  have h1 : K (F a 1) = 30 := by assumption
  have h2 : K (F a 4) = 31 := by assumption
  rw [← e, h2] at h1
  exact absurd h1 (by decide)
theorem v_X11_wouldTell_53_5 {K : Nat → Nat} {F : Nat → Nat → Nat} (a : Nat) (G : XG) (G1 : XG) (r1 : Int → Int) (x1 : Int32)
    (ha : K a = 13)
    (oq1 : ((G1.1 a 45).toInt) = (((fuO (G.2.1 (F a 10)) r1 (mw (G.2.1 (F a 1)) 0) 2).length : Nat) : Int))
    (oq1b : x1.toInt = ffP (G.2.1 (F a 10)) (mw (G.2.1 (F a 1)) 0) (fuO (G.2.1 (F a 10)) r1 (mw (G.2.1 (F a 1)) 0) 0))
    (oq1c : ((G1.1 a 46).toInt) = x1.toInt)
    (oq1e : 0 ≤ ((G1.1 a 19).toInt) ∧ ((G1.1 a 19).toInt) ≤ 2388 ∧ -1 ≤ x1.toInt ∧ x1.toInt < ((G1.1 a 19).toInt))
    (c5 : x1.toInt = (-1 : Int))
    (f31 : ((G.1 a 6).toInt) = 0 ∨ ((G.1 a 6).toInt) = 1)
    (c17 : ((G.1 a 6).toInt) ≠ 0) :
    AnsM ((G.1 a 6).toInt) ((G1.1 a 45).toInt) (G.2.1 (F a 10)) r1 (mw (G.2.1 (F a 1)) 0) := by
  unfold AnsM
  first
    | exact Or.inl ⟨Or.inl (by rw [← oq1b]; omega), rfl⟩
    | (rw [oq22] at oq22a; exact Or.inl ⟨Or.inr ⟨by omega, by rw [← oq22a]; omega⟩, rfl⟩)
    | exact Or.inr ⟨by rw [← oq1b]; omega, fun h => absurd h (by omega), oq1⟩
    | (rw [oq22] at oq22a; exact Or.inr ⟨by rw [← oq1b]; omega, fun h => by rw [← oq22a]; omega, oq1⟩)
theorem v_X11_wouldTell_53_6 {F : Nat → Nat → Nat} (a : Nat) (G : XG) (G1 : XG) (G49 : XG)
    (oq49 : CPd (G1.2.1 (F a 4)) (G1.2.1 (F a 1)) (G49.2.1 (F a 1)) (0 : Int) (0 : Int) 360)
    (c_G1_F_a_4 : G1.2.1 (F a 4) = G.2.1 (F a 4)) :
    mw (G49.2.1 (F a 1)) 0 = mw (G.2.1 (F a 4)) 0 := by
  first
    | (rw [← c_G1_F_a_4]; exact CPd.vwm oq49 (by decide))
    | (rw [← c_G22_F_a_4]; exact CPd.vwm oq49 (by decide))
theorem v_X11_wouldTell_53_7 {F : Nat → Nat → Nat} (a : Nat) (G : XG) (G1 : XG) (G49 : XG)
    (hA : RM (G.2.1 (F a 4)) 0)
    (oq49 : CPd (G1.2.1 (F a 4)) (G1.2.1 (F a 1)) (G49.2.1 (F a 1)) (0 : Int) (0 : Int) 360)
    (c_G1_F_a_4 : G1.2.1 (F a 4) = G.2.1 (F a 4)) :
    RM (G49.2.1 (F a 1)) 0 := by
  first
    | exact CPd.rm oq49 (by decide) (by rw [c_G1_F_a_4]; exact hA)
    | exact CPd.rm oq49 (by decide) (by rw [c_G22_F_a_4]; exact hA)
theorem v_X11_wouldTell_22_8 {F : Nat → Nat → Nat} (a : Nat) (G : XG) (G1 : XG)
    (hR : RV (G.2.1 (F a 10)))
    (c_G1_F_a_10 : G1.2.1 (F a 10) = G.2.1 (F a 10)) :
    RV (G1.2.1 (F a 10)) := by simp only [c_G1_F_a_10]; assumption
theorem v_X11_wouldTell_22_9 {F : Nat → Nat → Nat} (a : Nat) (G : XG) (G1 : XG)
    (hM : RM (G.2.1 (F a 1)) (0))
    (hA : RM (G.2.1 (F a 4)) 0)
    (c_G1_F_a_1 : G1.2.1 (F a 1) = G.2.1 (F a 1)) :
    RM (G1.2.1 (F a 1)) (0) := by simp only [c_G1_F_a_1]; assumption
theorem v_X11_wouldTell_22_10 {F : Nat → Nat → Nat} (a : Nat) (G : XG) (G1 : XG) (r1 : Int → Int)
    (h1 : LSt (G.2.1 (F a 10)) (G.2.1 (F a 12)) r1 12)
    (oq1d : LSt (G.2.1 (F a 10)) (G1.2.1 (F a 11)) (mw (G.2.1 (F a 1)) 0) 12)
    (c_G1_F_a_10 : G1.2.1 (F a 10) = G.2.1 (F a 10))
    (c_G1_F_a_12 : G1.2.1 (F a 12) = G.2.1 (F a 12)) :
    LSt (G1.2.1 (F a 10)) (G1.2.1 (F a 12)) r1 12 := by simp only [c_G1_F_a_10, c_G1_F_a_12]; assumption
theorem v_X11_wouldTell_22_11 {F : Nat → Nat → Nat} (G : XG) (a : Nat) (G1 : XG)
    (oq1d : LSt (G.2.1 (F a 10)) (G1.2.1 (F a 11)) (mw (G.2.1 (F a 1)) 0) 12)
    (c_G1_F_a_1 : G1.2.1 (F a 1) = G.2.1 (F a 1))
    (c_G1_F_a_10 : G1.2.1 (F a 10) = G.2.1 (F a 10)) :
    LSt (G1.2.1 (F a 10)) (G1.2.1 (F a 11)) (mw (G1.2.1 (F a 1)) 0) 12 := by
  (try rw [c_G1_F_a_10])
  (try rw [c_G1_F_a_1])
  exact oq1d
theorem v_X11_wouldTell_49_12 {K : Nat → Nat} {F : Nat → Nat → Nat} (a : Nat) (G : XG) (G1 : XG) (G22 : XG) (r1 : Int → Int) (x1 : Int32) (x22 : Int32)
    (ha : K a = 13)
    (hk9999 : K (F a 15) = 42)
    (hj9999 : F (F a 15) 99 = 15)
    (hk9999a : K (F a 17) = 43)
    (hj9999a : F (F a 17) 99 = 17)
    (hk9999b : K (F a 18) = 44)
    (hj9999b : F (F a 18) 99 = 18)
    (hk9999c : K (F a 11) = 38)
    (hj9999c : F (F a 11) 99 = 11)
    (hk9999d : K (F a 1) = 30)
    (hj9999d : F (F a 1) 99 = 1)
    (hk9999e : K (F a 4) = 31)
    (hj9999e : F (F a 4) 99 = 4)
    (hk9999f : K (F a 10) = 37)
    (hj9999f : F (F a 10) 99 = 10)
    (hk9999g : K (F a 12) = 38)
    (hj9999g : F (F a 12) 99 = 12)
    (hF1 : XFr [(a, 16), (a, 19), (a, 45), (a, 46)] [F a 15, F a 17, F a 18, F a 11] [] G G1)
    (hF22 : XFr [(a, 16), (a, 19)] [F a 15, F a 17, F a 18] [] G1 G22)
    (hR : RV (G.2.1 (F a 10)))
    (hM : RM (G.2.1 (F a 1)) (0))
    (hA : RM (G.2.1 (F a 4)) 0)
    (h1 : LSt (G.2.1 (F a 10)) (G.2.1 (F a 12)) r1 12)
    (oq1 : ((G1.1 a 45).toInt) = (((fuO (G.2.1 (F a 10)) r1 (mw (G.2.1 (F a 1)) 0) 2).length : Nat) : Int))
    (oq1a : pL G1 F a = fuO (G.2.1 (F a 10)) r1 (mw (G.2.1 (F a 1)) 0) 0)
    (oq1b : x1.toInt = ffP (G.2.1 (F a 10)) (mw (G.2.1 (F a 1)) 0) (fuO (G.2.1 (F a 10)) r1 (mw (G.2.1 (F a 1)) 0) 0))
    (oq1c : ((G1.1 a 46).toInt) = x1.toInt)
    (oq1d : LSt (G.2.1 (F a 10)) (G1.2.1 (F a 11)) (mw (G.2.1 (F a 1)) 0) 12)
    (oq1e : 0 ≤ ((G1.1 a 19).toInt) ∧ ((G1.1 a 19).toInt) ≤ 2388 ∧ -1 ≤ x1.toInt ∧ x1.toInt < ((G1.1 a 19).toInt))
    (oq22 : pL G22 F a = fuO (G.2.1 (F a 10)) r1 (mw (G.2.1 (F a 1)) 0) (1 : Int))
    (oq22a : x22.toInt = ffP (G.2.1 (F a 10)) (mw (G.2.1 (F a 1)) 0) (pL G22 F a))
    (oq22b : 0 ≤ ((G22.1 a 19).toInt) ∧ ((G22.1 a 19).toInt) ≤ 2388 ∧ x22.toInt < ((G22.1 a 19).toInt))
    (c5 : x1.toInt = (-1 : Int))
    (f33 : ((G.1 a 6).toInt) = 0 ∨ ((G.1 a 6).toInt) = 1)
    (c17 : ¬ (((G.1 a 6).toInt) ≠ 0))
    (t22 : -1 ≤ x22.toInt)
    (c26 : x22.toInt = (-1 : Int))
    (c_G1_F_a_4 : G1.2.1 (F a 4) = G.2.1 (F a 4))
    (c_G22_F_a_1 : G22.2.1 (F a 1) = G.2.1 (F a 1))
    (c_G22_F_a_11 : G22.2.1 (F a 11) = G1.2.1 (F a 11))
    (c_G22_F_a_4 : G22.2.1 (F a 4) = G.2.1 (F a 4))
    (d_G22_a_45 : G22.1 a 45 = G1.1 a 45)
    (d_G22_a_46 : G22.1 a 46 = G1.1 a 46) :
    (F a 4) ≠ (F a 1) := by
  intro e
  have h1 : K (F a 1) = 30 := by assumption
  have h2 : K (F a 4) = 31 := by assumption
  rw [← e, h2] at h1
  exact absurd h1 (by decide)
theorem v_X11_wouldTell_53_13 {K : Nat → Nat} {F : Nat → Nat → Nat} (a : Nat) (G : XG) (G1 : XG) (G22 : XG) (r1 : Int → Int) (x1 : Int32) (x22 : Int32)
    (ha : K a = 13)
    (oq1 : ((G1.1 a 45).toInt) = (((fuO (G.2.1 (F a 10)) r1 (mw (G.2.1 (F a 1)) 0) 2).length : Nat) : Int))
    (oq1b : x1.toInt = ffP (G.2.1 (F a 10)) (mw (G.2.1 (F a 1)) 0) (fuO (G.2.1 (F a 10)) r1 (mw (G.2.1 (F a 1)) 0) 0))
    (oq1c : ((G1.1 a 46).toInt) = x1.toInt)
    (oq1e : 0 ≤ ((G1.1 a 19).toInt) ∧ ((G1.1 a 19).toInt) ≤ 2388 ∧ -1 ≤ x1.toInt ∧ x1.toInt < ((G1.1 a 19).toInt))
    (oq22 : pL G22 F a = fuO (G.2.1 (F a 10)) r1 (mw (G.2.1 (F a 1)) 0) (1 : Int))
    (oq22a : x22.toInt = ffP (G.2.1 (F a 10)) (mw (G.2.1 (F a 1)) 0) (pL G22 F a))
    (oq22b : 0 ≤ ((G22.1 a 19).toInt) ∧ ((G22.1 a 19).toInt) ≤ 2388 ∧ x22.toInt < ((G22.1 a 19).toInt))
    (c5 : x1.toInt = (-1 : Int))
    (f35 : ((G.1 a 6).toInt) = 0 ∨ ((G.1 a 6).toInt) = 1)
    (c17 : ¬ (((G.1 a 6).toInt) ≠ 0))
    (t22 : -1 ≤ x22.toInt)
    (c26 : x22.toInt = (-1 : Int)) :
    AnsM ((G.1 a 6).toInt) ((G1.1 a 45).toInt) (G.2.1 (F a 10)) r1 (mw (G.2.1 (F a 1)) 0) := by
  unfold AnsM
  first
    | exact Or.inl ⟨Or.inl (by rw [← oq1b]; omega), rfl⟩
    | (rw [oq22] at oq22a; exact Or.inl ⟨Or.inr ⟨by omega, by rw [← oq22a]; omega⟩, rfl⟩)
    | exact Or.inr ⟨by rw [← oq1b]; omega, fun h => absurd h (by omega), oq1⟩
    | (rw [oq22] at oq22a; exact Or.inr ⟨by rw [← oq1b]; omega, fun h => by rw [← oq22a]; omega, oq1⟩)
theorem v_X11_wouldTell_53_14 {F : Nat → Nat → Nat} (a : Nat) (G : XG) (G1 : XG) (G22 : XG) (G49 : XG)
    (oq49 : CPd (G22.2.1 (F a 4)) (G22.2.1 (F a 1)) (G49.2.1 (F a 1)) (0 : Int) (0 : Int) 360)
    (c_G1_F_a_4 : G1.2.1 (F a 4) = G.2.1 (F a 4))
    (c_G22_F_a_4 : G22.2.1 (F a 4) = G.2.1 (F a 4)) :
    mw (G49.2.1 (F a 1)) 0 = mw (G.2.1 (F a 4)) 0 := by
  first
    | (rw [← c_G1_F_a_4]; exact CPd.vwm oq49 (by decide))
    | (rw [← c_G22_F_a_4]; exact CPd.vwm oq49 (by decide))
theorem v_X11_wouldTell_53_15 {F : Nat → Nat → Nat} (a : Nat) (G : XG) (G1 : XG) (G22 : XG) (G49 : XG)
    (hA : RM (G.2.1 (F a 4)) 0)
    (oq49 : CPd (G22.2.1 (F a 4)) (G22.2.1 (F a 1)) (G49.2.1 (F a 1)) (0 : Int) (0 : Int) 360)
    (c_G1_F_a_4 : G1.2.1 (F a 4) = G.2.1 (F a 4))
    (c_G22_F_a_4 : G22.2.1 (F a 4) = G.2.1 (F a 4)) :
    RM (G49.2.1 (F a 1)) 0 := by
  first
    | exact CPd.rm oq49 (by decide) (by rw [c_G1_F_a_4]; exact hA)
    | exact CPd.rm oq49 (by decide) (by rw [c_G22_F_a_4]; exact hA)
theorem v_X11_wouldTell_49_16 {K : Nat → Nat} {F : Nat → Nat → Nat} (a : Nat) (G : XG) (G1 : XG) (G22 : XG) (r1 : Int → Int) (x1 : Int32) (x22 : Int32)
    (ha : K a = 13)
    (hk9999 : K (F a 15) = 42)
    (hj9999 : F (F a 15) 99 = 15)
    (hk9999a : K (F a 17) = 43)
    (hj9999a : F (F a 17) 99 = 17)
    (hk9999b : K (F a 18) = 44)
    (hj9999b : F (F a 18) 99 = 18)
    (hk9999c : K (F a 11) = 38)
    (hj9999c : F (F a 11) 99 = 11)
    (hk9999d : K (F a 1) = 30)
    (hj9999d : F (F a 1) 99 = 1)
    (hk9999e : K (F a 4) = 31)
    (hj9999e : F (F a 4) 99 = 4)
    (hk9999f : K (F a 10) = 37)
    (hj9999f : F (F a 10) 99 = 10)
    (hk9999g : K (F a 12) = 38)
    (hj9999g : F (F a 12) 99 = 12)
    (hF1 : XFr [(a, 16), (a, 19), (a, 45), (a, 46)] [F a 15, F a 17, F a 18, F a 11] [] G G1)
    (hF22 : XFr [(a, 16), (a, 19)] [F a 15, F a 17, F a 18] [] G1 G22)
    (hR : RV (G.2.1 (F a 10)))
    (hM : RM (G.2.1 (F a 1)) (0))
    (hA : RM (G.2.1 (F a 4)) 0)
    (h1 : LSt (G.2.1 (F a 10)) (G.2.1 (F a 12)) r1 12)
    (oq1 : ((G1.1 a 45).toInt) = (((fuO (G.2.1 (F a 10)) r1 (mw (G.2.1 (F a 1)) 0) 2).length : Nat) : Int))
    (oq1a : pL G1 F a = fuO (G.2.1 (F a 10)) r1 (mw (G.2.1 (F a 1)) 0) 0)
    (oq1b : x1.toInt = ffP (G.2.1 (F a 10)) (mw (G.2.1 (F a 1)) 0) (fuO (G.2.1 (F a 10)) r1 (mw (G.2.1 (F a 1)) 0) 0))
    (oq1c : ((G1.1 a 46).toInt) = x1.toInt)
    (oq1d : LSt (G.2.1 (F a 10)) (G1.2.1 (F a 11)) (mw (G.2.1 (F a 1)) 0) 12)
    (oq1e : 0 ≤ ((G1.1 a 19).toInt) ∧ ((G1.1 a 19).toInt) ≤ 2388 ∧ -1 ≤ x1.toInt ∧ x1.toInt < ((G1.1 a 19).toInt))
    (oq22 : pL G22 F a = fuO (G.2.1 (F a 10)) r1 (mw (G.2.1 (F a 1)) 0) (1 : Int))
    (oq22a : x22.toInt = ffP (G.2.1 (F a 10)) (mw (G.2.1 (F a 1)) 0) (pL G22 F a))
    (oq22b : 0 ≤ ((G22.1 a 19).toInt) ∧ ((G22.1 a 19).toInt) ≤ 2388 ∧ x22.toInt < ((G22.1 a 19).toInt))
    (c5 : x1.toInt = (-1 : Int))
    (f33 : ((G.1 a 6).toInt) = 0 ∨ ((G.1 a 6).toInt) = 1)
    (c17 : ¬ (((G.1 a 6).toInt) ≠ 0))
    (t22 : -1 ≤ x22.toInt)
    (c26 : ¬ (x22.toInt = (-1 : Int)))
    (c_G1_F_a_4 : G1.2.1 (F a 4) = G.2.1 (F a 4))
    (c_G22_F_a_1 : G22.2.1 (F a 1) = G.2.1 (F a 1))
    (c_G22_F_a_11 : G22.2.1 (F a 11) = G1.2.1 (F a 11))
    (c_G22_F_a_4 : G22.2.1 (F a 4) = G.2.1 (F a 4))
    (d_G22_a_45 : G22.1 a 45 = G1.1 a 45)
    (d_G22_a_46 : G22.1 a 46 = G1.1 a 46) :
    (F a 4) ≠ (F a 1) := by
  intro e
  have h1 : K (F a 1) = 30 := by assumption
  have h2 : K (F a 4) = 31 := by assumption
  rw [← e, h2] at h1
  exact absurd h1 (by decide)
theorem v_X11_wouldTell_53_17 {K : Nat → Nat} {F : Nat → Nat → Nat} (a : Nat) (G : XG) (G1 : XG) (G22 : XG) (r1 : Int → Int) (x1 : Int32) (x22 : Int32)
    (ha : K a = 13)
    (oq1 : ((G1.1 a 45).toInt) = (((fuO (G.2.1 (F a 10)) r1 (mw (G.2.1 (F a 1)) 0) 2).length : Nat) : Int))
    (oq1b : x1.toInt = ffP (G.2.1 (F a 10)) (mw (G.2.1 (F a 1)) 0) (fuO (G.2.1 (F a 10)) r1 (mw (G.2.1 (F a 1)) 0) 0))
    (oq1c : ((G1.1 a 46).toInt) = x1.toInt)
    (oq1e : 0 ≤ ((G1.1 a 19).toInt) ∧ ((G1.1 a 19).toInt) ≤ 2388 ∧ -1 ≤ x1.toInt ∧ x1.toInt < ((G1.1 a 19).toInt))
    (oq22 : pL G22 F a = fuO (G.2.1 (F a 10)) r1 (mw (G.2.1 (F a 1)) 0) (1 : Int))
    (oq22a : x22.toInt = ffP (G.2.1 (F a 10)) (mw (G.2.1 (F a 1)) 0) (pL G22 F a))
    (oq22b : 0 ≤ ((G22.1 a 19).toInt) ∧ ((G22.1 a 19).toInt) ≤ 2388 ∧ x22.toInt < ((G22.1 a 19).toInt))
    (c5 : x1.toInt = (-1 : Int))
    (f35 : ((G.1 a 6).toInt) = 0 ∨ ((G.1 a 6).toInt) = 1)
    (c17 : ¬ (((G.1 a 6).toInt) ≠ 0))
    (t22 : -1 ≤ x22.toInt)
    (c26 : ¬ (x22.toInt = (-1 : Int))) :
    AnsM ((G.1 a 6).toInt) (-5 : Int) (G.2.1 (F a 10)) r1 (mw (G.2.1 (F a 1)) 0) := by
  unfold AnsM
  first
    | exact Or.inl ⟨Or.inl (by rw [← oq1b]; omega), rfl⟩
    | (rw [oq22] at oq22a; exact Or.inl ⟨Or.inr ⟨by omega, by rw [← oq22a]; omega⟩, rfl⟩)
    | exact Or.inr ⟨by rw [← oq1b]; omega, fun h => absurd h (by omega), oq1⟩
    | (rw [oq22] at oq22a; exact Or.inr ⟨by rw [← oq1b]; omega, fun h => by rw [← oq22a]; omega, oq1⟩)
theorem v_X11_wouldTell_53_18 {F : Nat → Nat → Nat} (a : Nat) (G : XG) (G1 : XG) (G22 : XG) (G49 : XG)
    (oq49 : CPd (G22.2.1 (F a 4)) (G22.2.1 (F a 1)) (G49.2.1 (F a 1)) (0 : Int) (0 : Int) 360)
    (c_G1_F_a_4 : G1.2.1 (F a 4) = G.2.1 (F a 4))
    (c_G22_F_a_4 : G22.2.1 (F a 4) = G.2.1 (F a 4)) :
    mw (G49.2.1 (F a 1)) 0 = mw (G.2.1 (F a 4)) 0 := by
  first
    | (rw [← c_G1_F_a_4]; exact CPd.vwm oq49 (by decide))
    | (rw [← c_G22_F_a_4]; exact CPd.vwm oq49 (by decide))
theorem v_X11_wouldTell_53_19 {F : Nat → Nat → Nat} (a : Nat) (G : XG) (G1 : XG) (G22 : XG) (G49 : XG)
    (hA : RM (G.2.1 (F a 4)) 0)
    (oq49 : CPd (G22.2.1 (F a 4)) (G22.2.1 (F a 1)) (G49.2.1 (F a 1)) (0 : Int) (0 : Int) 360)
    (c_G1_F_a_4 : G1.2.1 (F a 4) = G.2.1 (F a 4))
    (c_G22_F_a_4 : G22.2.1 (F a 4) = G.2.1 (F a 4)) :
    RM (G49.2.1 (F a 1)) 0 := by
  first
    | exact CPd.rm oq49 (by decide) (by rw [c_G1_F_a_4]; exact hA)
    | exact CPd.rm oq49 (by decide) (by rw [c_G22_F_a_4]; exact hA)
theorem v_X11_wouldTell_49_20 {K : Nat → Nat} {F : Nat → Nat → Nat} (a : Nat) (G : XG) (G1 : XG) (r1 : Int → Int) (x1 : Int32)
    (ha : K a = 13)
    (hk9999 : K (F a 15) = 42)
    (hj9999 : F (F a 15) 99 = 15)
    (hk9999a : K (F a 17) = 43)
    (hj9999a : F (F a 17) 99 = 17)
    (hk9999b : K (F a 18) = 44)
    (hj9999b : F (F a 18) 99 = 18)
    (hk9999c : K (F a 11) = 38)
    (hj9999c : F (F a 11) 99 = 11)
    (hk9999d : K (F a 1) = 30)
    (hj9999d : F (F a 1) 99 = 1)
    (hk9999e : K (F a 4) = 31)
    (hj9999e : F (F a 4) 99 = 4)
    (hk9999f : K (F a 10) = 37)
    (hj9999f : F (F a 10) 99 = 10)
    (hk9999g : K (F a 12) = 38)
    (hj9999g : F (F a 12) 99 = 12)
    (hF1 : XFr [(a, 16), (a, 19), (a, 45), (a, 46)] [F a 15, F a 17, F a 18, F a 11] [] G G1)
    (hR : RV (G.2.1 (F a 10)))
    (hM : RM (G.2.1 (F a 1)) (0))
    (hA : RM (G.2.1 (F a 4)) 0)
    (h1 : LSt (G.2.1 (F a 10)) (G.2.1 (F a 12)) r1 12)
    (oq1 : ((G1.1 a 45).toInt) = (((fuO (G.2.1 (F a 10)) r1 (mw (G.2.1 (F a 1)) 0) 2).length : Nat) : Int))
    (oq1a : pL G1 F a = fuO (G.2.1 (F a 10)) r1 (mw (G.2.1 (F a 1)) 0) 0)
    (oq1b : x1.toInt = ffP (G.2.1 (F a 10)) (mw (G.2.1 (F a 1)) 0) (fuO (G.2.1 (F a 10)) r1 (mw (G.2.1 (F a 1)) 0) 0))
    (oq1c : ((G1.1 a 46).toInt) = x1.toInt)
    (oq1d : LSt (G.2.1 (F a 10)) (G1.2.1 (F a 11)) (mw (G.2.1 (F a 1)) 0) 12)
    (oq1e : 0 ≤ ((G1.1 a 19).toInt) ∧ ((G1.1 a 19).toInt) ≤ 2388 ∧ -1 ≤ x1.toInt ∧ x1.toInt < ((G1.1 a 19).toInt))
    (c5 : ¬ (x1.toInt = (-1 : Int)))
    (c_G1_F_a_1 : G1.2.1 (F a 1) = G.2.1 (F a 1))
    (c_G1_F_a_4 : G1.2.1 (F a 4) = G.2.1 (F a 4)) :
    (F a 4) ≠ (F a 1) := by
  intro e
  have h1 : K (F a 1) = 30 := by assumption
  have h2 : K (F a 4) = 31 := by assumption
  rw [← e, h2] at h1
  exact absurd h1 (by decide)
theorem v_X11_wouldTell_53_21 {K : Nat → Nat} {F : Nat → Nat → Nat} (a : Nat) (G : XG) (G1 : XG) (r1 : Int → Int) (x1 : Int32)
    (ha : K a = 13)
    (oq1 : ((G1.1 a 45).toInt) = (((fuO (G.2.1 (F a 10)) r1 (mw (G.2.1 (F a 1)) 0) 2).length : Nat) : Int))
    (oq1b : x1.toInt = ffP (G.2.1 (F a 10)) (mw (G.2.1 (F a 1)) 0) (fuO (G.2.1 (F a 10)) r1 (mw (G.2.1 (F a 1)) 0) 0))
    (oq1c : ((G1.1 a 46).toInt) = x1.toInt)
    (oq1e : 0 ≤ ((G1.1 a 19).toInt) ∧ ((G1.1 a 19).toInt) ≤ 2388 ∧ -1 ≤ x1.toInt ∧ x1.toInt < ((G1.1 a 19).toInt))
    (c5 : ¬ (x1.toInt = (-1 : Int))) :
    AnsM ((G.1 a 6).toInt) (-5 : Int) (G.2.1 (F a 10)) r1 (mw (G.2.1 (F a 1)) 0) := by
  unfold AnsM
  first
    | exact Or.inl ⟨Or.inl (by rw [← oq1b]; omega), rfl⟩
    | (rw [oq22] at oq22a; exact Or.inl ⟨Or.inr ⟨by omega, by rw [← oq22a]; omega⟩, rfl⟩)
    | exact Or.inr ⟨by rw [← oq1b]; omega, fun h => absurd h (by omega), oq1⟩
    | (rw [oq22] at oq22a; exact Or.inr ⟨by rw [← oq1b]; omega, fun h => by rw [← oq22a]; omega, oq1⟩)
theorem v_X11_wouldTell_53_22 {F : Nat → Nat → Nat} (a : Nat) (G : XG) (G1 : XG) (G49 : XG)
    (oq49 : CPd (G1.2.1 (F a 4)) (G1.2.1 (F a 1)) (G49.2.1 (F a 1)) (0 : Int) (0 : Int) 360)
    (c_G1_F_a_4 : G1.2.1 (F a 4) = G.2.1 (F a 4)) :
    mw (G49.2.1 (F a 1)) 0 = mw (G.2.1 (F a 4)) 0 := by
  first
    | (rw [← c_G1_F_a_4]; exact CPd.vwm oq49 (by decide))
    | (rw [← c_G22_F_a_4]; exact CPd.vwm oq49 (by decide))
theorem v_X11_wouldTell_53_23 {F : Nat → Nat → Nat} (a : Nat) (G : XG) (G1 : XG) (G49 : XG)
    (hA : RM (G.2.1 (F a 4)) 0)
    (oq49 : CPd (G1.2.1 (F a 4)) (G1.2.1 (F a 1)) (G49.2.1 (F a 1)) (0 : Int) (0 : Int) 360)
    (c_G1_F_a_4 : G1.2.1 (F a 4) = G.2.1 (F a 4)) :
    RM (G49.2.1 (F a 1)) 0 := by
  first
    | exact CPd.rm oq49 (by decide) (by rw [c_G1_F_a_4]; exact hA)
    | exact CPd.rm oq49 (by decide) (by rw [c_G22_F_a_4]; exact hA)
theorem v_X11_wouldSet_11_1 {F : Nat → Nat → Nat} (a : Nat) (G2 : XG) (G : XG)
    (hM : RM (G.2.1 (F a 1)) (0))
    (c_G2_F_a_1 : G2.2.1 (F a 1) = G.2.1 (F a 1)) :
    RM (G2.2.1 (F a 1)) 0 := by simp only [c_G2_F_a_1]; assumption
theorem v_X11_wouldSet_25_2 {F : Nat → Nat → Nat} (a : Nat) (G2 : XG) (G : XG)
    (hR : RV (G.2.1 (F a 10)))
    (c_G2_F_a_10 : G2.2.1 (F a 10) = G.2.1 (F a 10)) :
    RV (G2.2.1 (F a 10)) := by simp only [c_G2_F_a_10]; assumption
theorem v_X11_wouldSet_25_3 {F : Nat → Nat → Nat} (a : Nat) (G2 : XG) (G : XG)
    (hM : RM (G.2.1 (F a 1)) (0))
    (c_G2_F_a_1 : G2.2.1 (F a 1) = G.2.1 (F a 1)) :
    RM (G2.2.1 (F a 1)) (0) := by simp only [c_G2_F_a_1]; assumption
theorem v_X11_wouldSet_45_4 {F : Nat → Nat → Nat} (a : Nat) (G : XG) (G43 : XG)
    (hR : RV (G.2.1 (F a 10)))
    (c_G43_F_a_10 : G43.2.1 (F a 10) = G.2.1 (F a 10)) :
    RV (G43.2.1 (F a 10)) := by simp only [c_G43_F_a_10]; assumption
theorem v_X11_wouldSet_45_5 {F : Nat → Nat → Nat} (G43 : XG) (G25 : XG) (a : Nat) (x40 : Int32) (p3 : Int32) (G : XG) (p0 : Int32) (p1 : Int32) (p2 : Int32) (x34 : Int32) (x38 : Int32)
    (hG43 : G43 = cput G25 (F a 1) x40.toNatClampNeg p3)
    (hM : RM (G.2.1 (F a 1)) (0))
    (z24 : 0 ≤ p0.toInt ∧ p0.toInt < 3 ∧ 0 ≤ p1.toInt ∧ p1.toInt < 30 ∧ 0 ≤ p2.toInt ∧ p2.toInt < 3 ∧ (p3.toInt = -1000 ∨ (-99 ≤ p3.toInt ∧ p3.toInt ≤ 99)))
    (t34 : 0 ≤ p0.toInt ∧ p0.toInt ≤ 2 ∧ 0 ≤ p1.toInt ∧ p1.toInt ≤ 29 → x34.toInt = 4 * (30 * p0.toInt + p1.toInt))
    (t38 : x38.toInt = x34.toInt + (1 : Int) ∨ x34.toInt + (1 : Int) < -2147483648 ∨ 2147483648 ≤ x34.toInt + (1 : Int))
    (t40 : x40.toInt = x38.toInt + p2.toInt ∨ x38.toInt + p2.toInt < -2147483648 ∨ 2147483648 ≤ x38.toInt + p2.toInt)
    (c_G25_F_a_1 : G25.2.1 (F a 1) = G.2.1 (F a 1)) :
    RM (G43.2.1 (F a 1)) (0) := by
  exact hM.set (t := p0.toInt) (k := p1.toInt) (c := p2.toInt) (by omega) (by decide) (by omega) (aI_pu hG43 c_G25_F_a_1 rfl rfl (by omega)) (by omega)
theorem v_X11_wouldSet_45_6 {F : Nat → Nat → Nat} (G25 : XG) (a : Nat) (G43 : XG)
    (oq25a : RM (G25.2.1 (F a 4)) 0)
    (c_G43_F_a_4 : G43.2.1 (F a 4) = G25.2.1 (F a 4)) :
    RM (G43.2.1 (F a 4)) 0 := by simp only [c_G43_F_a_4]; assumption
theorem v_X11_wouldSet_45_7 {F : Nat → Nat → Nat} (G : XG) (a : Nat) (G25 : XG) (G43 : XG)
    (oq25b : LSt (G.2.1 (F a 10)) (G25.2.1 (F a 12)) (mw (G.2.1 (F a 1)) 0) 12)
    (c_G43_F_a_10 : G43.2.1 (F a 10) = G.2.1 (F a 10))
    (c_G43_F_a_12 : G43.2.1 (F a 12) = G25.2.1 (F a 12)) :
    LSt (G43.2.1 (F a 10)) (G43.2.1 (F a 12)) (mw (G.2.1 (F a 1)) 0) 12 := by
  rw [c_G43_F_a_10, c_G43_F_a_12]; exact oq25b
theorem v_X11_wouldSet_48_8 {F : Nat → Nat → Nat} (G25 : XG) (a : Nat) (G : XG) (G45 : XG)
    (oq25 : mw (G25.2.1 (F a 4)) 0 = mw (G.2.1 (F a 1)) 0)
    (oq45a : mw (G45.2.1 (F a 1)) 0 = mw (G25.2.1 (F a 4)) 0) :
    mw (G45.2.1 (F a 1)) 0 = mw (G.2.1 (F a 1)) 0 := by
  exact oq45a.trans oq25
theorem v_X11_wouldSet_48_9 {F : Nat → Nat → Nat} (G45 : XG) (a : Nat)
    (oq45b : RM (G45.2.1 (F a 1)) 0) :
    RM (G45.2.1 (F a 1)) 0 := by
  exact oq45b
theorem v_X11_wouldSet_48_10 {K : Nat → Nat} {F : Nat → Nat → Nat} (a : Nat) (G : XG) (G25 : XG) (G43 : XG) (x40 : Int32) (p3 : Int32) (x11 : Int32) (p0 : Int32) (p1 : Int32) (p2 : Int32) (x45 : Int32) (x34 : Int32) (x38 : Int32)
    (ha : K a = 13)
    (hG43 : G43 = cput G25 (F a 1) x40.toNatClampNeg p3)
    (hM : RM (G.2.1 (F a 1)) (0))
    (oq11 : x11.toInt = whyS (mw (G.2.1 (F a 1)) 0) p0.toInt p1.toInt p2.toInt p3.toInt)
    (oq45 : AnsM ((G.1 a 6).toInt) x45.toInt (G.2.1 (F a 10)) (mw (G.2.1 (F a 1)) 0) (mw (G43.2.1 (F a 1)) 0))
    (c18 : x11.toInt = 0)
    (z24 : 0 ≤ p0.toInt ∧ p0.toInt < 3 ∧ 0 ≤ p1.toInt ∧ p1.toInt < 30 ∧ 0 ≤ p2.toInt ∧ p2.toInt < 3 ∧ (p3.toInt = -1000 ∨ (-99 ≤ p3.toInt ∧ p3.toInt ≤ 99)))
    (t34 : 0 ≤ p0.toInt ∧ p0.toInt ≤ 2 ∧ 0 ≤ p1.toInt ∧ p1.toInt ≤ 29 → x34.toInt = 4 * (30 * p0.toInt + p1.toInt))
    (t38 : x38.toInt = x34.toInt + (1 : Int) ∨ x34.toInt + (1 : Int) < -2147483648 ∨ 2147483648 ≤ x34.toInt + (1 : Int))
    (t40 : x40.toInt = x38.toInt + p2.toInt ∨ x38.toInt + p2.toInt < -2147483648 ∨ 2147483648 ≤ x38.toInt + p2.toInt)
    (c_G25_F_a_1 : G25.2.1 (F a 1) = G.2.1 (F a 1)) :
    (whyS (mw (G.2.1 (F a 1)) 0) p0.toInt p1.toInt p2.toInt p3.toInt ≠ 0 ∧ x45.toInt = whyS (mw (G.2.1 (F a 1)) 0) p0.toInt p1.toInt p2.toInt p3.toInt) ∨ (whyS (mw (G.2.1 (F a 1)) 0) p0.toInt p1.toInt p2.toInt p3.toInt = 0 ∧ AnsM ((G.1 a 6).toInt) x45.toInt (G.2.1 (F a 10)) (mw (G.2.1 (F a 1)) 0) (rset (mw (G.2.1 (F a 1)) 0) (90 * p0.toInt + 30 * p2.toInt + p1.toInt) p3.toInt)) := by
  have w0 := whyS_0 (oq11.symm.trans c18)
  have fl : aI (G.2.1 (F a 1)) (0 + 4 * (30 * p0.toInt + p1.toInt)) = 1 := by
    rcases hM.flag (t := p0.toInt) (k := p1.toInt) (by omega) with h | h
    · exact absurd h.2 w0.2.1
    · exact h.1
  have e1 := mw_set (b := 0) (t := p0.toInt) (k := p1.toInt) (c := p2.toInt) (by omega) (by decide) (by omega) (aI_pu hG43 c_G25_F_a_1 rfl rfl (by omega)) fl
  rw [e1] at oq45
  exact Or.inr ⟨oq11.symm.trans c18, oq45⟩
theorem v_X11_wouldSet_23_11 {F : Nat → Nat → Nat} (G2 : XG) (a : Nat) (G : XG)
    (c_G2_F_a_1 : G2.2.1 (F a 1) = G.2.1 (F a 1)) :
    mw (G2.2.1 (F a 1)) 0 = mw (G.2.1 (F a 1)) 0 := by
  rw [c_G2_F_a_1]
theorem v_X11_wouldSet_23_12 {F : Nat → Nat → Nat} (G : XG) (a : Nat) (G2 : XG)
    (hM : RM (G.2.1 (F a 1)) (0))
    (c_G2_F_a_1 : G2.2.1 (F a 1) = G.2.1 (F a 1)) :
    RM (G2.2.1 (F a 1)) 0 := by
  rw [c_G2_F_a_1]; exact hM
theorem v_X11_wouldSet_23_13 {K : Nat → Nat} {F : Nat → Nat → Nat} (a : Nat) (G : XG) (x11 : Int32) (p0 : Int32) (p1 : Int32) (p2 : Int32) (p3 : Int32)
    (ha : K a = 13)
    (oq11 : x11.toInt = whyS (mw (G.2.1 (F a 1)) 0) p0.toInt p1.toInt p2.toInt p3.toInt)
    (c18 : ¬ (x11.toInt = 0)) :
    (whyS (mw (G.2.1 (F a 1)) 0) p0.toInt p1.toInt p2.toInt p3.toInt ≠ 0 ∧ x11.toInt = whyS (mw (G.2.1 (F a 1)) 0) p0.toInt p1.toInt p2.toInt p3.toInt) ∨ (whyS (mw (G.2.1 (F a 1)) 0) p0.toInt p1.toInt p2.toInt p3.toInt = 0 ∧ AnsM ((G.1 a 6).toInt) x11.toInt (G.2.1 (F a 10)) (mw (G.2.1 (F a 1)) 0) (rset (mw (G.2.1 (F a 1)) 0) (90 * p0.toInt + 30 * p2.toInt + p1.toInt) p3.toInt)) := by
  exact Or.inl ⟨by omega, by omega⟩
theorem v_X11_depth_38_1 {K : Nat → Nat} {F : Nat → Nat → Nat} (a : Nat) (G : XG) (x7 : Int32) (p0 : Int32) (p1 : Int32)
    (ha : K a = 13)
    (t7 : (x7.toInt = 1 ∧ 0 ≤ p0.toInt ∧ p0.toInt ≤ 11 ∧ (aI (G.2.1 (F a 10)) (10 * p0.toInt + 0)) ≠ -1) ∨ (x7.toInt = 0 ∧ (¬ (0 ≤ p0.toInt ∧ p0.toInt ≤ 11) ∨ (aI (G.2.1 (F a 10)) (10 * p0.toInt + 0)) = -1)))
    (c10 : x7.toInt = 0) :
    (¬ (0 ≤ p0.toInt ∧ p0.toInt ≤ 11 ∧ aI (G.2.1 (F a 10)) (10 * p0.toInt + 0) ≠ -1) ∧ (-1 : Int) = -1) ∨ ((0 ≤ p0.toInt ∧ p0.toInt ≤ 11 ∧ aI (G.2.1 (F a 10)) (10 * p0.toInt + 0) ≠ -1) ∧ (-1 : Int) = dpS (mw (G.2.1 (F a 1)) 0) (aI (G.2.1 (F a 10)) (10 * p0.toInt + 0)) (aI (G.2.1 (F a 10)) (10 * p0.toInt + 1)) (aI (G.2.1 (F a 10)) (10 * p0.toInt + 2)) p1.toInt) := by
  first
    | exact Or.inl ⟨by omega, rfl⟩
    | exact Or.inr ⟨by omega, (dpS_n (by omega)).symm⟩
theorem v_X11_depth_38_2 {K : Nat → Nat} {F : Nat → Nat → Nat} (a : Nat) (G : XG) (p0 : Int32) (x7 : Int32) (p1 : Int32)
    (ha : K a = 13)
    (t7 : (x7.toInt = 1 ∧ 0 ≤ p0.toInt ∧ p0.toInt ≤ 11 ∧ (aI (G.2.1 (F a 10)) (10 * p0.toInt + 0)) ≠ -1) ∨ (x7.toInt = 0 ∧ (¬ (0 ≤ p0.toInt ∧ p0.toInt ≤ 11) ∨ (aI (G.2.1 (F a 10)) (10 * p0.toInt + 0)) = -1)))
    (c10 : ¬ (x7.toInt = 0))
    (z13 : (-1 ≤ (aI (G.2.1 (F a 10)) (10 * p0.toInt + 0)) ∧ (aI (G.2.1 (F a 10)) (10 * p0.toInt + 0)) ≤ 5) ∧ (0 ≤ (aI (G.2.1 (F a 10)) (10 * p0.toInt + 1)) ∧ (aI (G.2.1 (F a 10)) (10 * p0.toInt + 1)) ≤ 2) ∧ (0 ≤ (aI (G.2.1 (F a 10)) (10 * p0.toInt + 2)) ∧ (aI (G.2.1 (F a 10)) (10 * p0.toInt + 2)) ≤ 2) ∧ (-1 ≤ (aI (G.2.1 (F a 10)) (10 * p0.toInt + 3)) ∧ (aI (G.2.1 (F a 10)) (10 * p0.toInt + 3)) ≤ 2) ∧ ((aI (G.2.1 (F a 10)) (10 * p0.toInt + 0)) = 1 ∨ (aI (G.2.1 (F a 10)) (10 * p0.toInt + 0)) = 3 ∨ (aI (G.2.1 (F a 10)) (10 * p0.toInt + 0)) = 4 → 0 ≤ (aI (G.2.1 (F a 10)) (10 * p0.toInt + 3))))
    (c20 : (aI (G.2.1 (F a 10)) (10 * p0.toInt + 0)) ≠ (5 : Int)) :
    (¬ (0 ≤ p0.toInt ∧ p0.toInt ≤ 11 ∧ aI (G.2.1 (F a 10)) (10 * p0.toInt + 0) ≠ -1) ∧ (-1 : Int) = -1) ∨ ((0 ≤ p0.toInt ∧ p0.toInt ≤ 11 ∧ aI (G.2.1 (F a 10)) (10 * p0.toInt + 0) ≠ -1) ∧ (-1 : Int) = dpS (mw (G.2.1 (F a 1)) 0) (aI (G.2.1 (F a 10)) (10 * p0.toInt + 0)) (aI (G.2.1 (F a 10)) (10 * p0.toInt + 1)) (aI (G.2.1 (F a 10)) (10 * p0.toInt + 2)) p1.toInt) := by
  first
    | exact Or.inl ⟨by omega, rfl⟩
    | exact Or.inr ⟨by omega, (dpS_n (by omega)).symm⟩
theorem v_X11_depth_31_3 {F : Nat → Nat → Nat} (a : Nat) (G2 : XG) (G : XG)
    (hM : RM (G.2.1 (F a 1)) (0))
    (c_G2_F_a_1 : G2.2.1 (F a 1) = G.2.1 (F a 1)) :
    RM (G2.2.1 (F a 1)) 0 := by simp only [c_G2_F_a_1]; assumption
theorem v_X11_depth_106_4 {K : Nat → Nat} {F : Nat → Nat → Nat} (a : Nat) (G : XG) (p0 : Int32) (p1 : Int32) (l3_44 : Int32) (l4_44 : Int32) (x7 : Int32) (x31 : Int32) (N44 : Nat)
    (ha : K a = 13)
    (dp : dpF (mw (G.2.1 (F a 1)) 0) (aI (G.2.1 (F a 10)) (10 * p0.toInt + 1)) (aI (G.2.1 (F a 10)) (10 * p0.toInt + 2)) 31 0 (p1.toInt) = dpF (mw (G.2.1 (F a 1)) 0) (aI (G.2.1 (F a 10)) (10 * p0.toInt + 1)) (aI (G.2.1 (F a 10)) (10 * p0.toInt + 2)) (31 - l3_44.toInt).toNat (l3_44.toInt) (l4_44.toInt))
    (t7 : (x7.toInt = 1 ∧ 0 ≤ p0.toInt ∧ p0.toInt ≤ 11 ∧ (aI (G.2.1 (F a 10)) (10 * p0.toInt + 0)) ≠ -1) ∨ (x7.toInt = 0 ∧ (¬ (0 ≤ p0.toInt ∧ p0.toInt ≤ 11) ∨ (aI (G.2.1 (F a 10)) (10 * p0.toInt + 0)) = -1)))
    (c10 : ¬ (x7.toInt = 0))
    (z13 : (-1 ≤ (aI (G.2.1 (F a 10)) (10 * p0.toInt + 0)) ∧ (aI (G.2.1 (F a 10)) (10 * p0.toInt + 0)) ≤ 5) ∧ (0 ≤ (aI (G.2.1 (F a 10)) (10 * p0.toInt + 1)) ∧ (aI (G.2.1 (F a 10)) (10 * p0.toInt + 1)) ≤ 2) ∧ (0 ≤ (aI (G.2.1 (F a 10)) (10 * p0.toInt + 2)) ∧ (aI (G.2.1 (F a 10)) (10 * p0.toInt + 2)) ≤ 2) ∧ (-1 ≤ (aI (G.2.1 (F a 10)) (10 * p0.toInt + 3)) ∧ (aI (G.2.1 (F a 10)) (10 * p0.toInt + 3)) ≤ 2) ∧ ((aI (G.2.1 (F a 10)) (10 * p0.toInt + 0)) = 1 ∨ (aI (G.2.1 (F a 10)) (10 * p0.toInt + 0)) = 3 ∨ (aI (G.2.1 (F a 10)) (10 * p0.toInt + 0)) = 4 → 0 ≤ (aI (G.2.1 (F a 10)) (10 * p0.toInt + 3))))
    (c20 : ¬ ((aI (G.2.1 (F a 10)) (10 * p0.toInt + 0)) ≠ (5 : Int)))
    (t31 : (x31.toInt = 1 ∧ (cel (mw (G.2.1 (F a 1)) 0) (aI (G.2.1 (F a 10)) (10 * p0.toInt + 1)) (p1.toInt) 0) ≠ -2000) ∨ (x31.toInt = 0 ∧ (cel (mw (G.2.1 (F a 1)) 0) (aI (G.2.1 (F a 10)) (10 * p0.toInt + 1)) (p1.toInt) 0) = -2000))
    (c34 : x31.toInt ≠ 0)
    (z39 : ¬ (0 ≤ (aI (G.2.1 (F a 10)) (10 * p0.toInt + 1)) ∧ (aI (G.2.1 (F a 10)) (10 * p0.toInt + 1)) < 3 ∧ 0 ≤ p1.toInt ∧ p1.toInt < 30) → (cel (mw (G.2.1 (F a 1)) 0) (aI (G.2.1 (F a 10)) (10 * p0.toInt + 1)) (p1.toInt) 0) = -2000)
    (I44_0 : 0 ≤ l3_44.toInt ∧ l3_44.toInt ≤ 31)
    (I44_1 : 0 ≤ l4_44.toInt ∧ l4_44.toInt < 30)
    (I44_2 : (cel (mw (G.2.1 (F a 1)) 0) (aI (G.2.1 (F a 10)) (10 * p0.toInt + 1)) (l4_44.toInt) 0) ≠ -2000)
    (hm44 : 100 - l3_44.toInt < (((N44) + 1 : Nat) : Int))
    (c47 : (30 : Int) < l3_44.toInt) :
    (¬ (0 ≤ p0.toInt ∧ p0.toInt ≤ 11 ∧ aI (G.2.1 (F a 10)) (10 * p0.toInt + 0) ≠ -1) ∧ (-2 : Int) = -1) ∨ ((0 ≤ p0.toInt ∧ p0.toInt ≤ 11 ∧ aI (G.2.1 (F a 10)) (10 * p0.toInt + 0) ≠ -1) ∧ (-2 : Int) = dpS (mw (G.2.1 (F a 1)) 0) (aI (G.2.1 (F a 10)) (10 * p0.toInt + 0)) (aI (G.2.1 (F a 10)) (10 * p0.toInt + 1)) (aI (G.2.1 (F a 10)) (10 * p0.toInt + 2)) p1.toInt) := by
  have e : (31 - l3_44.toInt).toNat = 0 := by omega
  rw [e] at dp
  exact Or.inr ⟨by omega, ((dpS_i (by omega)).trans dp).symm⟩
theorem v_X11_depth_86_5 {F : Nat → Nat → Nat} (a : Nat) (G2 : XG) (G : XG)
    (hM : RM (G.2.1 (F a 1)) (0))
    (c_G2_F_a_1 : G2.2.1 (F a 1) = G.2.1 (F a 1)) :
    RM (G2.2.1 (F a 1)) 0 := by simp only [c_G2_F_a_1]; assumption
theorem v_X11_depth_101_6 {K : Nat → Nat} {F : Nat → Nat → Nat} (a : Nat) (G : XG) (p0 : Int32) (p1 : Int32) (l3_44 : Int32) (l4_44 : Int32) (x7 : Int32) (x31 : Int32) (N44 : Nat) (x62 : Int32) (x86 : Int32)
    (ha : K a = 13)
    (dp : dpF (mw (G.2.1 (F a 1)) 0) (aI (G.2.1 (F a 10)) (10 * p0.toInt + 1)) (aI (G.2.1 (F a 10)) (10 * p0.toInt + 2)) 31 0 (p1.toInt) = dpF (mw (G.2.1 (F a 1)) 0) (aI (G.2.1 (F a 10)) (10 * p0.toInt + 1)) (aI (G.2.1 (F a 10)) (10 * p0.toInt + 2)) (31 - l3_44.toInt).toNat (l3_44.toInt) (l4_44.toInt))
    (t7 : (x7.toInt = 1 ∧ 0 ≤ p0.toInt ∧ p0.toInt ≤ 11 ∧ (aI (G.2.1 (F a 10)) (10 * p0.toInt + 0)) ≠ -1) ∨ (x7.toInt = 0 ∧ (¬ (0 ≤ p0.toInt ∧ p0.toInt ≤ 11) ∨ (aI (G.2.1 (F a 10)) (10 * p0.toInt + 0)) = -1)))
    (c10 : ¬ (x7.toInt = 0))
    (z13 : (-1 ≤ (aI (G.2.1 (F a 10)) (10 * p0.toInt + 0)) ∧ (aI (G.2.1 (F a 10)) (10 * p0.toInt + 0)) ≤ 5) ∧ (0 ≤ (aI (G.2.1 (F a 10)) (10 * p0.toInt + 1)) ∧ (aI (G.2.1 (F a 10)) (10 * p0.toInt + 1)) ≤ 2) ∧ (0 ≤ (aI (G.2.1 (F a 10)) (10 * p0.toInt + 2)) ∧ (aI (G.2.1 (F a 10)) (10 * p0.toInt + 2)) ≤ 2) ∧ (-1 ≤ (aI (G.2.1 (F a 10)) (10 * p0.toInt + 3)) ∧ (aI (G.2.1 (F a 10)) (10 * p0.toInt + 3)) ≤ 2) ∧ ((aI (G.2.1 (F a 10)) (10 * p0.toInt + 0)) = 1 ∨ (aI (G.2.1 (F a 10)) (10 * p0.toInt + 0)) = 3 ∨ (aI (G.2.1 (F a 10)) (10 * p0.toInt + 0)) = 4 → 0 ≤ (aI (G.2.1 (F a 10)) (10 * p0.toInt + 3))))
    (c20 : ¬ ((aI (G.2.1 (F a 10)) (10 * p0.toInt + 0)) ≠ (5 : Int)))
    (t31 : (x31.toInt = 1 ∧ (cel (mw (G.2.1 (F a 1)) 0) (aI (G.2.1 (F a 10)) (10 * p0.toInt + 1)) (p1.toInt) 0) ≠ -2000) ∨ (x31.toInt = 0 ∧ (cel (mw (G.2.1 (F a 1)) 0) (aI (G.2.1 (F a 10)) (10 * p0.toInt + 1)) (p1.toInt) 0) = -2000))
    (c34 : x31.toInt ≠ 0)
    (z39 : ¬ (0 ≤ (aI (G.2.1 (F a 10)) (10 * p0.toInt + 1)) ∧ (aI (G.2.1 (F a 10)) (10 * p0.toInt + 1)) < 3 ∧ 0 ≤ p1.toInt ∧ p1.toInt < 30) → (cel (mw (G.2.1 (F a 1)) 0) (aI (G.2.1 (F a 10)) (10 * p0.toInt + 1)) (p1.toInt) 0) = -2000)
    (I44_0 : 0 ≤ l3_44.toInt ∧ l3_44.toInt ≤ 31)
    (I44_1 : 0 ≤ l4_44.toInt ∧ l4_44.toInt < 30)
    (I44_2 : (cel (mw (G.2.1 (F a 1)) 0) (aI (G.2.1 (F a 10)) (10 * p0.toInt + 1)) (l4_44.toInt) 0) ≠ -2000)
    (hm44 : 100 - l3_44.toInt < (((N44) + 1 : Nat) : Int))
    (c47 : ¬ ((30 : Int) < l3_44.toInt))
    (t62 : 0 ≤ (aI (G.2.1 (F a 10)) (10 * p0.toInt + 1)) ∧ (aI (G.2.1 (F a 10)) (10 * p0.toInt + 1)) ≤ 2 ∧ 0 ≤ l4_44.toInt ∧ l4_44.toInt ≤ 29 → x62.toInt = 4 * (30 * (aI (G.2.1 (F a 10)) (10 * p0.toInt + 1)) + l4_44.toInt))
    (z77 : (aI (G.2.1 (F a 1)) (4 * (30 * (aI (G.2.1 (F a 10)) (10 * p0.toInt + 1)) + l4_44.toInt) + 1 + (aI (G.2.1 (F a 10)) (10 * p0.toInt + 2)))) = (cel (mw (G.2.1 (F a 1)) 0) (aI (G.2.1 (F a 10)) (10 * p0.toInt + 1)) (l4_44.toInt) (aI (G.2.1 (F a 10)) (10 * p0.toInt + 2))))
    (t86 : (x86.toInt = 1 ∧ (cel (mw (G.2.1 (F a 1)) 0) (aI (G.2.1 (F a 10)) (10 * p0.toInt + 1)) (aI (G.2.1 (F a 1)) (4 * (30 * (aI (G.2.1 (F a 10)) (10 * p0.toInt + 1)) + l4_44.toInt) + 1 + (aI (G.2.1 (F a 10)) (10 * p0.toInt + 2)))) 0) ≠ -2000) ∨ (x86.toInt = 0 ∧ (cel (mw (G.2.1 (F a 1)) 0) (aI (G.2.1 (F a 10)) (10 * p0.toInt + 1)) (aI (G.2.1 (F a 1)) (4 * (30 * (aI (G.2.1 (F a 10)) (10 * p0.toInt + 1)) + l4_44.toInt) + 1 + (aI (G.2.1 (F a 10)) (10 * p0.toInt + 2)))) 0) = -2000))
    (z89 : ¬ (0 ≤ (aI (G.2.1 (F a 10)) (10 * p0.toInt + 1)) ∧ (aI (G.2.1 (F a 10)) (10 * p0.toInt + 1)) < 3 ∧ 0 ≤ (aI (G.2.1 (F a 1)) (4 * (30 * (aI (G.2.1 (F a 10)) (10 * p0.toInt + 1)) + l4_44.toInt) + 1 + (aI (G.2.1 (F a 10)) (10 * p0.toInt + 2)))) ∧ (aI (G.2.1 (F a 1)) (4 * (30 * (aI (G.2.1 (F a 10)) (10 * p0.toInt + 1)) + l4_44.toInt) + 1 + (aI (G.2.1 (F a 10)) (10 * p0.toInt + 2)))) < 30) → (cel (mw (G.2.1 (F a 1)) 0) (aI (G.2.1 (F a 10)) (10 * p0.toInt + 1)) (aI (G.2.1 (F a 1)) (4 * (30 * (aI (G.2.1 (F a 10)) (10 * p0.toInt + 1)) + l4_44.toInt) + 1 + (aI (G.2.1 (F a 10)) (10 * p0.toInt + 2)))) 0) = -2000)
    (c89 : x86.toInt ≠ 0) :
    dpF (mw (G.2.1 (F a 1)) 0) (aI (G.2.1 (F a 10)) (10 * p0.toInt + 1)) (aI (G.2.1 (F a 10)) (10 * p0.toInt + 2)) 31 0 (p1.toInt) = dpF (mw (G.2.1 (F a 1)) 0) (aI (G.2.1 (F a 10)) (10 * p0.toInt + 1)) (aI (G.2.1 (F a 10)) (10 * p0.toInt + 2)) (31 - (l3_44.toInt + 1)).toNat (l3_44.toInt + 1) ((aI (G.2.1 (F a 1)) (4 * (30 * (aI (G.2.1 (F a 10)) (10 * p0.toInt + 1)) + l4_44.toInt) + 1 + (aI (G.2.1 (F a 10)) (10 * p0.toInt + 2))))) := by
  have e : (31 - l3_44.toInt).toNat = (31 - (l3_44.toInt + 1)).toNat + 1 := by omega
  rw [e] at dp
  rw [z77] at t86 ⊢
  exact dp.trans (dpF_s (by omega))
theorem v_X11_depth_93_7 {K : Nat → Nat} {F : Nat → Nat → Nat} (a : Nat) (G : XG) (p0 : Int32) (p1 : Int32) (l3_44 : Int32) (l4_44 : Int32) (x7 : Int32) (x31 : Int32) (N44 : Nat) (x62 : Int32) (x86 : Int32)
    (ha : K a = 13)
    (dp : dpF (mw (G.2.1 (F a 1)) 0) (aI (G.2.1 (F a 10)) (10 * p0.toInt + 1)) (aI (G.2.1 (F a 10)) (10 * p0.toInt + 2)) 31 0 (p1.toInt) = dpF (mw (G.2.1 (F a 1)) 0) (aI (G.2.1 (F a 10)) (10 * p0.toInt + 1)) (aI (G.2.1 (F a 10)) (10 * p0.toInt + 2)) (31 - l3_44.toInt).toNat (l3_44.toInt) (l4_44.toInt))
    (t7 : (x7.toInt = 1 ∧ 0 ≤ p0.toInt ∧ p0.toInt ≤ 11 ∧ (aI (G.2.1 (F a 10)) (10 * p0.toInt + 0)) ≠ -1) ∨ (x7.toInt = 0 ∧ (¬ (0 ≤ p0.toInt ∧ p0.toInt ≤ 11) ∨ (aI (G.2.1 (F a 10)) (10 * p0.toInt + 0)) = -1)))
    (c10 : ¬ (x7.toInt = 0))
    (z13 : (-1 ≤ (aI (G.2.1 (F a 10)) (10 * p0.toInt + 0)) ∧ (aI (G.2.1 (F a 10)) (10 * p0.toInt + 0)) ≤ 5) ∧ (0 ≤ (aI (G.2.1 (F a 10)) (10 * p0.toInt + 1)) ∧ (aI (G.2.1 (F a 10)) (10 * p0.toInt + 1)) ≤ 2) ∧ (0 ≤ (aI (G.2.1 (F a 10)) (10 * p0.toInt + 2)) ∧ (aI (G.2.1 (F a 10)) (10 * p0.toInt + 2)) ≤ 2) ∧ (-1 ≤ (aI (G.2.1 (F a 10)) (10 * p0.toInt + 3)) ∧ (aI (G.2.1 (F a 10)) (10 * p0.toInt + 3)) ≤ 2) ∧ ((aI (G.2.1 (F a 10)) (10 * p0.toInt + 0)) = 1 ∨ (aI (G.2.1 (F a 10)) (10 * p0.toInt + 0)) = 3 ∨ (aI (G.2.1 (F a 10)) (10 * p0.toInt + 0)) = 4 → 0 ≤ (aI (G.2.1 (F a 10)) (10 * p0.toInt + 3))))
    (c20 : ¬ ((aI (G.2.1 (F a 10)) (10 * p0.toInt + 0)) ≠ (5 : Int)))
    (t31 : (x31.toInt = 1 ∧ (cel (mw (G.2.1 (F a 1)) 0) (aI (G.2.1 (F a 10)) (10 * p0.toInt + 1)) (p1.toInt) 0) ≠ -2000) ∨ (x31.toInt = 0 ∧ (cel (mw (G.2.1 (F a 1)) 0) (aI (G.2.1 (F a 10)) (10 * p0.toInt + 1)) (p1.toInt) 0) = -2000))
    (c34 : x31.toInt ≠ 0)
    (z39 : ¬ (0 ≤ (aI (G.2.1 (F a 10)) (10 * p0.toInt + 1)) ∧ (aI (G.2.1 (F a 10)) (10 * p0.toInt + 1)) < 3 ∧ 0 ≤ p1.toInt ∧ p1.toInt < 30) → (cel (mw (G.2.1 (F a 1)) 0) (aI (G.2.1 (F a 10)) (10 * p0.toInt + 1)) (p1.toInt) 0) = -2000)
    (I44_0 : 0 ≤ l3_44.toInt ∧ l3_44.toInt ≤ 31)
    (I44_1 : 0 ≤ l4_44.toInt ∧ l4_44.toInt < 30)
    (I44_2 : (cel (mw (G.2.1 (F a 1)) 0) (aI (G.2.1 (F a 10)) (10 * p0.toInt + 1)) (l4_44.toInt) 0) ≠ -2000)
    (hm44 : 100 - l3_44.toInt < (((N44) + 1 : Nat) : Int))
    (c47 : ¬ ((30 : Int) < l3_44.toInt))
    (t62 : 0 ≤ (aI (G.2.1 (F a 10)) (10 * p0.toInt + 1)) ∧ (aI (G.2.1 (F a 10)) (10 * p0.toInt + 1)) ≤ 2 ∧ 0 ≤ l4_44.toInt ∧ l4_44.toInt ≤ 29 → x62.toInt = 4 * (30 * (aI (G.2.1 (F a 10)) (10 * p0.toInt + 1)) + l4_44.toInt))
    (z77 : (aI (G.2.1 (F a 1)) (4 * (30 * (aI (G.2.1 (F a 10)) (10 * p0.toInt + 1)) + l4_44.toInt) + 1 + (aI (G.2.1 (F a 10)) (10 * p0.toInt + 2)))) = (cel (mw (G.2.1 (F a 1)) 0) (aI (G.2.1 (F a 10)) (10 * p0.toInt + 1)) (l4_44.toInt) (aI (G.2.1 (F a 10)) (10 * p0.toInt + 2))))
    (t86 : (x86.toInt = 1 ∧ (cel (mw (G.2.1 (F a 1)) 0) (aI (G.2.1 (F a 10)) (10 * p0.toInt + 1)) (aI (G.2.1 (F a 1)) (4 * (30 * (aI (G.2.1 (F a 10)) (10 * p0.toInt + 1)) + l4_44.toInt) + 1 + (aI (G.2.1 (F a 10)) (10 * p0.toInt + 2)))) 0) ≠ -2000) ∨ (x86.toInt = 0 ∧ (cel (mw (G.2.1 (F a 1)) 0) (aI (G.2.1 (F a 10)) (10 * p0.toInt + 1)) (aI (G.2.1 (F a 1)) (4 * (30 * (aI (G.2.1 (F a 10)) (10 * p0.toInt + 1)) + l4_44.toInt) + 1 + (aI (G.2.1 (F a 10)) (10 * p0.toInt + 2)))) 0) = -2000))
    (z89 : ¬ (0 ≤ (aI (G.2.1 (F a 10)) (10 * p0.toInt + 1)) ∧ (aI (G.2.1 (F a 10)) (10 * p0.toInt + 1)) < 3 ∧ 0 ≤ (aI (G.2.1 (F a 1)) (4 * (30 * (aI (G.2.1 (F a 10)) (10 * p0.toInt + 1)) + l4_44.toInt) + 1 + (aI (G.2.1 (F a 10)) (10 * p0.toInt + 2)))) ∧ (aI (G.2.1 (F a 1)) (4 * (30 * (aI (G.2.1 (F a 10)) (10 * p0.toInt + 1)) + l4_44.toInt) + 1 + (aI (G.2.1 (F a 10)) (10 * p0.toInt + 2)))) < 30) → (cel (mw (G.2.1 (F a 1)) 0) (aI (G.2.1 (F a 10)) (10 * p0.toInt + 1)) (aI (G.2.1 (F a 1)) (4 * (30 * (aI (G.2.1 (F a 10)) (10 * p0.toInt + 1)) + l4_44.toInt) + 1 + (aI (G.2.1 (F a 10)) (10 * p0.toInt + 2)))) 0) = -2000)
    (c89 : ¬ (x86.toInt ≠ 0)) :
    (¬ (0 ≤ p0.toInt ∧ p0.toInt ≤ 11 ∧ aI (G.2.1 (F a 10)) (10 * p0.toInt + 0) ≠ -1) ∧ l3_44.toInt = -1) ∨ ((0 ≤ p0.toInt ∧ p0.toInt ≤ 11 ∧ aI (G.2.1 (F a 10)) (10 * p0.toInt + 0) ≠ -1) ∧ l3_44.toInt = dpS (mw (G.2.1 (F a 1)) 0) (aI (G.2.1 (F a 10)) (10 * p0.toInt + 0)) (aI (G.2.1 (F a 10)) (10 * p0.toInt + 1)) (aI (G.2.1 (F a 10)) (10 * p0.toInt + 2)) p1.toInt) := by
  have e : (31 - l3_44.toInt).toNat = (30 - l3_44.toInt).toNat + 1 := by omega
  rw [e] at dp
  rw [z77] at t86
  exact Or.inr ⟨by omega, ((dpS_i (by omega)).trans (dp.trans (dpF_o (by omega)))).symm⟩
theorem v_X11_depth_42_8 {F : Nat → Nat → Nat} (a : Nat) (G : XG) (p0 : Int32) (p1 : Int32) :
    dpF (mw (G.2.1 (F a 1)) 0) (aI (G.2.1 (F a 10)) (10 * p0.toInt + 1)) (aI (G.2.1 (F a 10)) (10 * p0.toInt + 2)) 31 0 (p1.toInt) = dpF (mw (G.2.1 (F a 1)) 0) (aI (G.2.1 (F a 10)) (10 * p0.toInt + 1)) (aI (G.2.1 (F a 10)) (10 * p0.toInt + 2)) (31 - (0 : Int)).toNat (0 : Int) (p1.toInt) := by
  have e : ((31 : Int) - (0 : Int)).toNat = 31 := by decide
  rw [e]
theorem v_X11_depth_38_9 {K : Nat → Nat} {F : Nat → Nat → Nat} (a : Nat) (G : XG) (p0 : Int32) (x7 : Int32) (x31 : Int32) (p1 : Int32)
    (ha : K a = 13)
    (t7 : (x7.toInt = 1 ∧ 0 ≤ p0.toInt ∧ p0.toInt ≤ 11 ∧ (aI (G.2.1 (F a 10)) (10 * p0.toInt + 0)) ≠ -1) ∨ (x7.toInt = 0 ∧ (¬ (0 ≤ p0.toInt ∧ p0.toInt ≤ 11) ∨ (aI (G.2.1 (F a 10)) (10 * p0.toInt + 0)) = -1)))
    (c10 : ¬ (x7.toInt = 0))
    (z13 : (-1 ≤ (aI (G.2.1 (F a 10)) (10 * p0.toInt + 0)) ∧ (aI (G.2.1 (F a 10)) (10 * p0.toInt + 0)) ≤ 5) ∧ (0 ≤ (aI (G.2.1 (F a 10)) (10 * p0.toInt + 1)) ∧ (aI (G.2.1 (F a 10)) (10 * p0.toInt + 1)) ≤ 2) ∧ (0 ≤ (aI (G.2.1 (F a 10)) (10 * p0.toInt + 2)) ∧ (aI (G.2.1 (F a 10)) (10 * p0.toInt + 2)) ≤ 2) ∧ (-1 ≤ (aI (G.2.1 (F a 10)) (10 * p0.toInt + 3)) ∧ (aI (G.2.1 (F a 10)) (10 * p0.toInt + 3)) ≤ 2) ∧ ((aI (G.2.1 (F a 10)) (10 * p0.toInt + 0)) = 1 ∨ (aI (G.2.1 (F a 10)) (10 * p0.toInt + 0)) = 3 ∨ (aI (G.2.1 (F a 10)) (10 * p0.toInt + 0)) = 4 → 0 ≤ (aI (G.2.1 (F a 10)) (10 * p0.toInt + 3))))
    (c20 : ¬ ((aI (G.2.1 (F a 10)) (10 * p0.toInt + 0)) ≠ (5 : Int)))
    (t31 : (x31.toInt = 1 ∧ (cel (mw (G.2.1 (F a 1)) 0) (aI (G.2.1 (F a 10)) (10 * p0.toInt + 1)) (p1.toInt) 0) ≠ -2000) ∨ (x31.toInt = 0 ∧ (cel (mw (G.2.1 (F a 1)) 0) (aI (G.2.1 (F a 10)) (10 * p0.toInt + 1)) (p1.toInt) 0) = -2000))
    (c34 : ¬ (x31.toInt ≠ 0)) :
    (¬ (0 ≤ p0.toInt ∧ p0.toInt ≤ 11 ∧ aI (G.2.1 (F a 10)) (10 * p0.toInt + 0) ≠ -1) ∧ (-1 : Int) = -1) ∨ ((0 ≤ p0.toInt ∧ p0.toInt ≤ 11 ∧ aI (G.2.1 (F a 10)) (10 * p0.toInt + 0) ≠ -1) ∧ (-1 : Int) = dpS (mw (G.2.1 (F a 1)) 0) (aI (G.2.1 (F a 10)) (10 * p0.toInt + 0)) (aI (G.2.1 (F a 10)) (10 * p0.toInt + 1)) (aI (G.2.1 (F a 10)) (10 * p0.toInt + 2)) p1.toInt) := by
  first
    | exact Or.inl ⟨by omega, rfl⟩
    | exact Or.inr ⟨by omega, (dpS_n (by omega)).symm⟩
theorem v_X11_leansOn_117_1 {K : Nat → Nat} {F : Nat → Nat → Nat} (a : Nat) (G : XG) (l5_6 : Int32) (l6_6 : Int32) (p0 : Int32) (p1 : Int32) (p2 : Int32) (p3 : Int32) (N6 : Nat)
    (ha : K a = 13)
    (hR : RV (G.2.1 (F a 10)))
    (hM : RM (G.2.1 (F a 1)) (0))
    (pl : (l5_6.toInt = 1 ∧ lnR (G.2.1 (F a 10)) (G.2.1 (F a 1)) l6_6.toInt p0.toInt p1.toInt p2.toInt p3.toInt) ∨ (l5_6.toInt = 0 ∧ ¬ lnR (G.2.1 (F a 10)) (G.2.1 (F a 1)) l6_6.toInt p0.toInt p1.toInt p2.toInt p3.toInt))
    (e0 : 0 ≤ p0.toInt ∧ p0.toInt < 3 ∧ 0 ≤ p1.toInt ∧ p1.toInt < 30)
    (e1 : 0 ≤ p3.toInt ∧ p3.toInt < 30)
    (I6_0 : 0 ≤ l6_6.toInt ∧ l6_6.toInt ≤ 12)
    (hm6 : 100 - l6_6.toInt < (((N6) + 1 : Nat) : Int))
    (c10 : (12 : Int) ≤ l6_6.toInt)
    (c100 : l5_6.toInt = 0) :
    ((0 : Int) = 1 ∧ lnM (G.2.1 (F a 10)) (mw (G.2.1 (F a 1)) 0) 12 p0.toInt p1.toInt p2.toInt p3.toInt) ∨ ((0 : Int) = 0 ∧ ¬ lnM (G.2.1 (F a 10)) (mw (G.2.1 (F a 1)) 0) 12 p0.toInt p1.toInt p2.toInt p3.toInt) := by
  have e12 : l6_6.toInt = 12 := by omega
  rw [e12] at pl
  rcases pl with ⟨a1, a2⟩ | ⟨a1, a2⟩
  · first
      | (exfalso; omega)
      | exact Or.inl ⟨rfl, lnR_M hR hM ⟨by omega, by omega⟩ (by decide) (by omega) a2⟩
      | exact Or.inr ⟨rfl, lnM_no hM (by omega) (by omega)⟩
  · first
      | (exfalso; omega)
      | exact Or.inr ⟨rfl, fun h => a2 (lnM_R hR hM ⟨by omega, by omega⟩ (by decide) (by omega) h)⟩
theorem v_X11_leansOn_106_2 {K : Nat → Nat} {F : Nat → Nat → Nat} (a : Nat) (G : XG) (l5_6 : Int32) (l6_6 : Int32) (p0 : Int32) (p1 : Int32) (p2 : Int32) (p3 : Int32) (N6 : Nat)
    (ha : K a = 13)
    (hk9999 : K (F a 10) = 37)
    (hj9999 : F (F a 10) 99 = 10)
    (hk9999a : K (F a 1) = 30)
    (hj9999a : F (F a 1) 99 = 1)
    (hR : RV (G.2.1 (F a 10)))
    (hM : RM (G.2.1 (F a 1)) (0))
    (pl : (l5_6.toInt = 1 ∧ lnR (G.2.1 (F a 10)) (G.2.1 (F a 1)) l6_6.toInt p0.toInt p1.toInt p2.toInt p3.toInt) ∨ (l5_6.toInt = 0 ∧ ¬ lnR (G.2.1 (F a 10)) (G.2.1 (F a 1)) l6_6.toInt p0.toInt p1.toInt p2.toInt p3.toInt))
    (e0 : 0 ≤ p0.toInt ∧ p0.toInt < 3 ∧ 0 ≤ p1.toInt ∧ p1.toInt < 30)
    (e1 : 0 ≤ p3.toInt ∧ p3.toInt < 30)
    (I6_0 : 0 ≤ l6_6.toInt ∧ l6_6.toInt ≤ 12)
    (hm6 : 100 - l6_6.toInt < (((N6) + 1 : Nat) : Int))
    (c10 : (12 : Int) ≤ l6_6.toInt)
    (c100 : ¬ (l5_6.toInt = 0)) :
    RM (G.2.1 (F a 1)) 0 := by
  first | assumption | omega
theorem v_X11_leansOn_117_3 {K : Nat → Nat} {F : Nat → Nat → Nat} (a : Nat) (G : XG) (l5_6 : Int32) (l6_6 : Int32) (p0 : Int32) (p1 : Int32) (p2 : Int32) (p3 : Int32) (N6 : Nat) (x106 : Int32)
    (ha : K a = 13)
    (hR : RV (G.2.1 (F a 10)))
    (hM : RM (G.2.1 (F a 1)) (0))
    (pl : (l5_6.toInt = 1 ∧ lnR (G.2.1 (F a 10)) (G.2.1 (F a 1)) l6_6.toInt p0.toInt p1.toInt p2.toInt p3.toInt) ∨ (l5_6.toInt = 0 ∧ ¬ lnR (G.2.1 (F a 10)) (G.2.1 (F a 1)) l6_6.toInt p0.toInt p1.toInt p2.toInt p3.toInt))
    (e0 : 0 ≤ p0.toInt ∧ p0.toInt < 3 ∧ 0 ≤ p1.toInt ∧ p1.toInt < 30)
    (e1 : 0 ≤ p3.toInt ∧ p3.toInt < 30)
    (I6_0 : 0 ≤ l6_6.toInt ∧ l6_6.toInt ≤ 12)
    (hm6 : 100 - l6_6.toInt < (((N6) + 1 : Nat) : Int))
    (c10 : (12 : Int) ≤ l6_6.toInt)
    (c100 : ¬ (l5_6.toInt = 0))
    (t106 : (x106.toInt = 1 ∧ (cel (mw (G.2.1 (F a 1)) 0) (p0.toInt) (p1.toInt) 0) ≠ -2000) ∨ (x106.toInt = 0 ∧ (cel (mw (G.2.1 (F a 1)) 0) (p0.toInt) (p1.toInt) 0) = -2000))
    (c109 : x106.toInt = 0) :
    ((0 : Int) = 1 ∧ lnM (G.2.1 (F a 10)) (mw (G.2.1 (F a 1)) 0) 12 p0.toInt p1.toInt p2.toInt p3.toInt) ∨ ((0 : Int) = 0 ∧ ¬ lnM (G.2.1 (F a 10)) (mw (G.2.1 (F a 1)) 0) 12 p0.toInt p1.toInt p2.toInt p3.toInt) := by
  have e12 : l6_6.toInt = 12 := by omega
  rw [e12] at pl
  rcases pl with ⟨a1, a2⟩ | ⟨a1, a2⟩
  · first
      | (exfalso; omega)
      | exact Or.inl ⟨rfl, lnR_M hR hM ⟨by omega, by omega⟩ (by decide) (by omega) a2⟩
      | exact Or.inr ⟨rfl, lnM_no hM (by omega) (by omega)⟩
  · first
      | (exfalso; omega)
      | exact Or.inr ⟨rfl, fun h => a2 (lnM_R hR hM ⟨by omega, by omega⟩ (by decide) (by omega) h)⟩
theorem v_X11_leansOn_117_4 {K : Nat → Nat} {F : Nat → Nat → Nat} (a : Nat) (G : XG) (l5_6 : Int32) (l6_6 : Int32) (p0 : Int32) (p1 : Int32) (p2 : Int32) (p3 : Int32) (N6 : Nat) (x106 : Int32)
    (ha : K a = 13)
    (hR : RV (G.2.1 (F a 10)))
    (hM : RM (G.2.1 (F a 1)) (0))
    (pl : (l5_6.toInt = 1 ∧ lnR (G.2.1 (F a 10)) (G.2.1 (F a 1)) l6_6.toInt p0.toInt p1.toInt p2.toInt p3.toInt) ∨ (l5_6.toInt = 0 ∧ ¬ lnR (G.2.1 (F a 10)) (G.2.1 (F a 1)) l6_6.toInt p0.toInt p1.toInt p2.toInt p3.toInt))
    (e0 : 0 ≤ p0.toInt ∧ p0.toInt < 3 ∧ 0 ≤ p1.toInt ∧ p1.toInt < 30)
    (e1 : 0 ≤ p3.toInt ∧ p3.toInt < 30)
    (I6_0 : 0 ≤ l6_6.toInt ∧ l6_6.toInt ≤ 12)
    (hm6 : 100 - l6_6.toInt < (((N6) + 1 : Nat) : Int))
    (c10 : (12 : Int) ≤ l6_6.toInt)
    (c100 : ¬ (l5_6.toInt = 0))
    (t106 : (x106.toInt = 1 ∧ (cel (mw (G.2.1 (F a 1)) 0) (p0.toInt) (p1.toInt) 0) ≠ -2000) ∨ (x106.toInt = 0 ∧ (cel (mw (G.2.1 (F a 1)) 0) (p0.toInt) (p1.toInt) 0) = -2000))
    (c109 : ¬ (x106.toInt = 0)) :
    ((1 : Int) = 1 ∧ lnM (G.2.1 (F a 10)) (mw (G.2.1 (F a 1)) 0) 12 p0.toInt p1.toInt p2.toInt p3.toInt) ∨ ((1 : Int) = 0 ∧ ¬ lnM (G.2.1 (F a 10)) (mw (G.2.1 (F a 1)) 0) 12 p0.toInt p1.toInt p2.toInt p3.toInt) := by
  have e12 : l6_6.toInt = 12 := by omega
  rw [e12] at pl
  rcases pl with ⟨a1, a2⟩ | ⟨a1, a2⟩
  · first
      | (exfalso; omega)
      | exact Or.inl ⟨rfl, lnR_M hR hM ⟨by omega, by omega⟩ (by decide) (by omega) a2⟩
      | exact Or.inr ⟨rfl, lnM_no hM (by omega) (by omega)⟩
  · first
      | (exfalso; omega)
      | exact Or.inr ⟨rfl, fun h => a2 (lnM_R hR hM ⟨by omega, by omega⟩ (by decide) (by omega) h)⟩
theorem v_X11_leansOn_95_5 {F : Nat → Nat → Nat} (a : Nat) (G : XG) (l6_6 : Int32) (p0 : Int32) (p1 : Int32) (p2 : Int32) (p3 : Int32) (k_90 : Int32)
    (pj : (k_90.toInt = 1 ∧ lnR (G.2.1 (F a 10)) (G.2.1 (F a 1)) (l6_6.toInt + 1) p0.toInt p1.toInt p2.toInt p3.toInt) ∨ (k_90.toInt = 0 ∧ ¬ lnR (G.2.1 (F a 10)) (G.2.1 (F a 1)) (l6_6.toInt + 1) p0.toInt p1.toInt p2.toInt p3.toInt)) :
    (k_90.toInt = 1 ∧ lnR (G.2.1 (F a 10)) (G.2.1 (F a 1)) (l6_6.toInt + 1) p0.toInt p1.toInt p2.toInt p3.toInt) ∨ (k_90.toInt = 0 ∧ ¬ lnR (G.2.1 (F a 10)) (G.2.1 (F a 1)) (l6_6.toInt + 1) p0.toInt p1.toInt p2.toInt p3.toInt) := by
  exact pj
theorem v_X11_leansOn_86_6 {K : Nat → Nat} {F : Nat → Nat → Nat} (a : Nat) (G : XG) (l5_6 : Int32) (l6_6 : Int32) (p0 : Int32) (p1 : Int32) (p2 : Int32) (p3 : Int32) (N6 : Nat)
    (ha : K a = 13)
    (pl : (l5_6.toInt = 1 ∧ lnR (G.2.1 (F a 10)) (G.2.1 (F a 1)) l6_6.toInt p0.toInt p1.toInt p2.toInt p3.toInt) ∨ (l5_6.toInt = 0 ∧ ¬ lnR (G.2.1 (F a 10)) (G.2.1 (F a 1)) l6_6.toInt p0.toInt p1.toInt p2.toInt p3.toInt))
    (e0 : 0 ≤ p0.toInt ∧ p0.toInt < 3 ∧ 0 ≤ p1.toInt ∧ p1.toInt < 30)
    (e1 : 0 ≤ p3.toInt ∧ p3.toInt < 30)
    (I6_0 : 0 ≤ l6_6.toInt ∧ l6_6.toInt ≤ 12)
    (hm6 : 100 - l6_6.toInt < (((N6) + 1 : Nat) : Int))
    (c10 : ¬ ((12 : Int) ≤ l6_6.toInt))
    (c15 : l5_6.toInt ≠ 0) :
    ((1 : Int) = 1 ∧ lnR (G.2.1 (F a 10)) (G.2.1 (F a 1)) (l6_6.toInt + 1) p0.toInt p1.toInt p2.toInt p3.toInt) ∨ ((1 : Int) = 0 ∧ ¬ lnR (G.2.1 (F a 10)) (G.2.1 (F a 1)) (l6_6.toInt + 1) p0.toInt p1.toInt p2.toInt p3.toInt) := by
  rcases pl with ⟨a1, a2⟩ | ⟨a1, a2⟩
  · first
      | exact Or.inl ⟨rfl, (lnR_s (by omega)).mpr (Or.inl a2)⟩
      | (exfalso; omega)
  · first
      | exact Or.inr ⟨rfl, fun h => ((lnR_s (by omega)).mp h).elim a2 (fun h9 => by
          obtain ⟨h1, h2, h3, h4⟩ := h9
          omega)⟩
      | exact Or.inl ⟨rfl, (lnR_s (by omega)).mpr (Or.inr ⟨by omega, by omega, by omega, by omega⟩)⟩
      | (exfalso; omega)
theorem v_X11_leansOn_89_7 {K : Nat → Nat} {F : Nat → Nat → Nat} (a : Nat) (G : XG) (l5_6 : Int32) (l6_6 : Int32) (p0 : Int32) (p1 : Int32) (p2 : Int32) (p3 : Int32) (N6 : Nat) (x21 : Int32)
    (ha : K a = 13)
    (pl : (l5_6.toInt = 1 ∧ lnR (G.2.1 (F a 10)) (G.2.1 (F a 1)) l6_6.toInt p0.toInt p1.toInt p2.toInt p3.toInt) ∨ (l5_6.toInt = 0 ∧ ¬ lnR (G.2.1 (F a 10)) (G.2.1 (F a 1)) l6_6.toInt p0.toInt p1.toInt p2.toInt p3.toInt))
    (e0 : 0 ≤ p0.toInt ∧ p0.toInt < 3 ∧ 0 ≤ p1.toInt ∧ p1.toInt < 30)
    (e1 : 0 ≤ p3.toInt ∧ p3.toInt < 30)
    (I6_0 : 0 ≤ l6_6.toInt ∧ l6_6.toInt ≤ 12)
    (hm6 : 100 - l6_6.toInt < (((N6) + 1 : Nat) : Int))
    (c10 : ¬ ((12 : Int) ≤ l6_6.toInt))
    (c15 : ¬ (l5_6.toInt ≠ 0))
    (t21 : (x21.toInt = 1 ∧ 0 ≤ l6_6.toInt ∧ l6_6.toInt ≤ 11 ∧ (aI (G.2.1 (F a 10)) (10 * l6_6.toInt + 0)) ≠ -1) ∨ (x21.toInt = 0 ∧ (¬ (0 ≤ l6_6.toInt ∧ l6_6.toInt ≤ 11) ∨ (aI (G.2.1 (F a 10)) (10 * l6_6.toInt + 0)) = -1)))
    (c24 : x21.toInt = 0) :
    ((0 : Int) = 1 ∧ lnR (G.2.1 (F a 10)) (G.2.1 (F a 1)) (l6_6.toInt + 1) p0.toInt p1.toInt p2.toInt p3.toInt) ∨ ((0 : Int) = 0 ∧ ¬ lnR (G.2.1 (F a 10)) (G.2.1 (F a 1)) (l6_6.toInt + 1) p0.toInt p1.toInt p2.toInt p3.toInt) := by
  rcases pl with ⟨a1, a2⟩ | ⟨a1, a2⟩
  · first
      | exact Or.inl ⟨rfl, (lnR_s (by omega)).mpr (Or.inl a2)⟩
      | (exfalso; omega)
  · first
      | exact Or.inr ⟨rfl, fun h => ((lnR_s (by omega)).mp h).elim a2 (fun h9 => by
          obtain ⟨h1, h2, h3, h4⟩ := h9
          omega)⟩
      | exact Or.inl ⟨rfl, (lnR_s (by omega)).mpr (Or.inr ⟨by omega, by omega, by omega, by omega⟩)⟩
      | (exfalso; omega)
theorem v_X11_leansOn_89_8 {K : Nat → Nat} {F : Nat → Nat → Nat} (a : Nat) (G : XG) (l5_6 : Int32) (l6_6 : Int32) (p0 : Int32) (p1 : Int32) (p2 : Int32) (p3 : Int32) (N6 : Nat) (x21 : Int32)
    (ha : K a = 13)
    (pl : (l5_6.toInt = 1 ∧ lnR (G.2.1 (F a 10)) (G.2.1 (F a 1)) l6_6.toInt p0.toInt p1.toInt p2.toInt p3.toInt) ∨ (l5_6.toInt = 0 ∧ ¬ lnR (G.2.1 (F a 10)) (G.2.1 (F a 1)) l6_6.toInt p0.toInt p1.toInt p2.toInt p3.toInt))
    (e0 : 0 ≤ p0.toInt ∧ p0.toInt < 3 ∧ 0 ≤ p1.toInt ∧ p1.toInt < 30)
    (e1 : 0 ≤ p3.toInt ∧ p3.toInt < 30)
    (I6_0 : 0 ≤ l6_6.toInt ∧ l6_6.toInt ≤ 12)
    (hm6 : 100 - l6_6.toInt < (((N6) + 1 : Nat) : Int))
    (c10 : ¬ ((12 : Int) ≤ l6_6.toInt))
    (c15 : ¬ (l5_6.toInt ≠ 0))
    (t21 : (x21.toInt = 1 ∧ 0 ≤ l6_6.toInt ∧ l6_6.toInt ≤ 11 ∧ (aI (G.2.1 (F a 10)) (10 * l6_6.toInt + 0)) ≠ -1) ∨ (x21.toInt = 0 ∧ (¬ (0 ≤ l6_6.toInt ∧ l6_6.toInt ≤ 11) ∨ (aI (G.2.1 (F a 10)) (10 * l6_6.toInt + 0)) = -1)))
    (c24 : ¬ (x21.toInt = 0))
    (z27 : (-1 ≤ (aI (G.2.1 (F a 10)) (10 * l6_6.toInt + 0)) ∧ (aI (G.2.1 (F a 10)) (10 * l6_6.toInt + 0)) ≤ 5) ∧ (0 ≤ (aI (G.2.1 (F a 10)) (10 * l6_6.toInt + 1)) ∧ (aI (G.2.1 (F a 10)) (10 * l6_6.toInt + 1)) ≤ 2) ∧ (0 ≤ (aI (G.2.1 (F a 10)) (10 * l6_6.toInt + 2)) ∧ (aI (G.2.1 (F a 10)) (10 * l6_6.toInt + 2)) ≤ 2) ∧ (-1 ≤ (aI (G.2.1 (F a 10)) (10 * l6_6.toInt + 3)) ∧ (aI (G.2.1 (F a 10)) (10 * l6_6.toInt + 3)) ≤ 2) ∧ ((aI (G.2.1 (F a 10)) (10 * l6_6.toInt + 0)) = 1 ∨ (aI (G.2.1 (F a 10)) (10 * l6_6.toInt + 0)) = 3 ∨ (aI (G.2.1 (F a 10)) (10 * l6_6.toInt + 0)) = 4 → 0 ≤ (aI (G.2.1 (F a 10)) (10 * l6_6.toInt + 3))))
    (c35 : (aI (G.2.1 (F a 10)) (10 * l6_6.toInt + 0)) ≠ (1 : Int)) :
    ((0 : Int) = 1 ∧ lnR (G.2.1 (F a 10)) (G.2.1 (F a 1)) (l6_6.toInt + 1) p0.toInt p1.toInt p2.toInt p3.toInt) ∨ ((0 : Int) = 0 ∧ ¬ lnR (G.2.1 (F a 10)) (G.2.1 (F a 1)) (l6_6.toInt + 1) p0.toInt p1.toInt p2.toInt p3.toInt) := by
  rcases pl with ⟨a1, a2⟩ | ⟨a1, a2⟩
  · first
      | exact Or.inl ⟨rfl, (lnR_s (by omega)).mpr (Or.inl a2)⟩
      | (exfalso; omega)
  · first
      | exact Or.inr ⟨rfl, fun h => ((lnR_s (by omega)).mp h).elim a2 (fun h9 => by
          obtain ⟨h1, h2, h3, h4⟩ := h9
          omega)⟩
      | exact Or.inl ⟨rfl, (lnR_s (by omega)).mpr (Or.inr ⟨by omega, by omega, by omega, by omega⟩)⟩
      | (exfalso; omega)
theorem v_X11_leansOn_89_9 {K : Nat → Nat} {F : Nat → Nat → Nat} (a : Nat) (G : XG) (l5_6 : Int32) (l6_6 : Int32) (p0 : Int32) (p1 : Int32) (p2 : Int32) (p3 : Int32) (N6 : Nat) (x21 : Int32)
    (ha : K a = 13)
    (pl : (l5_6.toInt = 1 ∧ lnR (G.2.1 (F a 10)) (G.2.1 (F a 1)) l6_6.toInt p0.toInt p1.toInt p2.toInt p3.toInt) ∨ (l5_6.toInt = 0 ∧ ¬ lnR (G.2.1 (F a 10)) (G.2.1 (F a 1)) l6_6.toInt p0.toInt p1.toInt p2.toInt p3.toInt))
    (e0 : 0 ≤ p0.toInt ∧ p0.toInt < 3 ∧ 0 ≤ p1.toInt ∧ p1.toInt < 30)
    (e1 : 0 ≤ p3.toInt ∧ p3.toInt < 30)
    (I6_0 : 0 ≤ l6_6.toInt ∧ l6_6.toInt ≤ 12)
    (hm6 : 100 - l6_6.toInt < (((N6) + 1 : Nat) : Int))
    (c10 : ¬ ((12 : Int) ≤ l6_6.toInt))
    (c15 : ¬ (l5_6.toInt ≠ 0))
    (t21 : (x21.toInt = 1 ∧ 0 ≤ l6_6.toInt ∧ l6_6.toInt ≤ 11 ∧ (aI (G.2.1 (F a 10)) (10 * l6_6.toInt + 0)) ≠ -1) ∨ (x21.toInt = 0 ∧ (¬ (0 ≤ l6_6.toInt ∧ l6_6.toInt ≤ 11) ∨ (aI (G.2.1 (F a 10)) (10 * l6_6.toInt + 0)) = -1)))
    (c24 : ¬ (x21.toInt = 0))
    (z27 : (-1 ≤ (aI (G.2.1 (F a 10)) (10 * l6_6.toInt + 0)) ∧ (aI (G.2.1 (F a 10)) (10 * l6_6.toInt + 0)) ≤ 5) ∧ (0 ≤ (aI (G.2.1 (F a 10)) (10 * l6_6.toInt + 1)) ∧ (aI (G.2.1 (F a 10)) (10 * l6_6.toInt + 1)) ≤ 2) ∧ (0 ≤ (aI (G.2.1 (F a 10)) (10 * l6_6.toInt + 2)) ∧ (aI (G.2.1 (F a 10)) (10 * l6_6.toInt + 2)) ≤ 2) ∧ (-1 ≤ (aI (G.2.1 (F a 10)) (10 * l6_6.toInt + 3)) ∧ (aI (G.2.1 (F a 10)) (10 * l6_6.toInt + 3)) ≤ 2) ∧ ((aI (G.2.1 (F a 10)) (10 * l6_6.toInt + 0)) = 1 ∨ (aI (G.2.1 (F a 10)) (10 * l6_6.toInt + 0)) = 3 ∨ (aI (G.2.1 (F a 10)) (10 * l6_6.toInt + 0)) = 4 → 0 ≤ (aI (G.2.1 (F a 10)) (10 * l6_6.toInt + 3))))
    (c35 : ¬ ((aI (G.2.1 (F a 10)) (10 * l6_6.toInt + 0)) ≠ (1 : Int)))
    (c46 : (aI (G.2.1 (F a 10)) (10 * l6_6.toInt + 3)) ≠ p2.toInt) :
    ((0 : Int) = 1 ∧ lnR (G.2.1 (F a 10)) (G.2.1 (F a 1)) (l6_6.toInt + 1) p0.toInt p1.toInt p2.toInt p3.toInt) ∨ ((0 : Int) = 0 ∧ ¬ lnR (G.2.1 (F a 10)) (G.2.1 (F a 1)) (l6_6.toInt + 1) p0.toInt p1.toInt p2.toInt p3.toInt) := by
  rcases pl with ⟨a1, a2⟩ | ⟨a1, a2⟩
  · first
      | exact Or.inl ⟨rfl, (lnR_s (by omega)).mpr (Or.inl a2)⟩
      | (exfalso; omega)
  · first
      | exact Or.inr ⟨rfl, fun h => ((lnR_s (by omega)).mp h).elim a2 (fun h9 => by
          obtain ⟨h1, h2, h3, h4⟩ := h9
          omega)⟩
      | exact Or.inl ⟨rfl, (lnR_s (by omega)).mpr (Or.inr ⟨by omega, by omega, by omega, by omega⟩)⟩
      | (exfalso; omega)
theorem v_X11_leansOn_89_10 {K : Nat → Nat} {F : Nat → Nat → Nat} (a : Nat) (G : XG) (l5_6 : Int32) (l6_6 : Int32) (p0 : Int32) (p1 : Int32) (p2 : Int32) (p3 : Int32) (N6 : Nat) (x21 : Int32)
    (ha : K a = 13)
    (pl : (l5_6.toInt = 1 ∧ lnR (G.2.1 (F a 10)) (G.2.1 (F a 1)) l6_6.toInt p0.toInt p1.toInt p2.toInt p3.toInt) ∨ (l5_6.toInt = 0 ∧ ¬ lnR (G.2.1 (F a 10)) (G.2.1 (F a 1)) l6_6.toInt p0.toInt p1.toInt p2.toInt p3.toInt))
    (e0 : 0 ≤ p0.toInt ∧ p0.toInt < 3 ∧ 0 ≤ p1.toInt ∧ p1.toInt < 30)
    (e1 : 0 ≤ p3.toInt ∧ p3.toInt < 30)
    (I6_0 : 0 ≤ l6_6.toInt ∧ l6_6.toInt ≤ 12)
    (hm6 : 100 - l6_6.toInt < (((N6) + 1 : Nat) : Int))
    (c10 : ¬ ((12 : Int) ≤ l6_6.toInt))
    (c15 : ¬ (l5_6.toInt ≠ 0))
    (t21 : (x21.toInt = 1 ∧ 0 ≤ l6_6.toInt ∧ l6_6.toInt ≤ 11 ∧ (aI (G.2.1 (F a 10)) (10 * l6_6.toInt + 0)) ≠ -1) ∨ (x21.toInt = 0 ∧ (¬ (0 ≤ l6_6.toInt ∧ l6_6.toInt ≤ 11) ∨ (aI (G.2.1 (F a 10)) (10 * l6_6.toInt + 0)) = -1)))
    (c24 : ¬ (x21.toInt = 0))
    (z27 : (-1 ≤ (aI (G.2.1 (F a 10)) (10 * l6_6.toInt + 0)) ∧ (aI (G.2.1 (F a 10)) (10 * l6_6.toInt + 0)) ≤ 5) ∧ (0 ≤ (aI (G.2.1 (F a 10)) (10 * l6_6.toInt + 1)) ∧ (aI (G.2.1 (F a 10)) (10 * l6_6.toInt + 1)) ≤ 2) ∧ (0 ≤ (aI (G.2.1 (F a 10)) (10 * l6_6.toInt + 2)) ∧ (aI (G.2.1 (F a 10)) (10 * l6_6.toInt + 2)) ≤ 2) ∧ (-1 ≤ (aI (G.2.1 (F a 10)) (10 * l6_6.toInt + 3)) ∧ (aI (G.2.1 (F a 10)) (10 * l6_6.toInt + 3)) ≤ 2) ∧ ((aI (G.2.1 (F a 10)) (10 * l6_6.toInt + 0)) = 1 ∨ (aI (G.2.1 (F a 10)) (10 * l6_6.toInt + 0)) = 3 ∨ (aI (G.2.1 (F a 10)) (10 * l6_6.toInt + 0)) = 4 → 0 ≤ (aI (G.2.1 (F a 10)) (10 * l6_6.toInt + 3))))
    (c35 : ¬ ((aI (G.2.1 (F a 10)) (10 * l6_6.toInt + 0)) ≠ (1 : Int)))
    (c46 : ¬ ((aI (G.2.1 (F a 10)) (10 * l6_6.toInt + 3)) ≠ p2.toInt))
    (c57 : (aI (G.2.1 (F a 10)) (10 * l6_6.toInt + 1)) ≠ p0.toInt) :
    ((0 : Int) = 1 ∧ lnR (G.2.1 (F a 10)) (G.2.1 (F a 1)) (l6_6.toInt + 1) p0.toInt p1.toInt p2.toInt p3.toInt) ∨ ((0 : Int) = 0 ∧ ¬ lnR (G.2.1 (F a 10)) (G.2.1 (F a 1)) (l6_6.toInt + 1) p0.toInt p1.toInt p2.toInt p3.toInt) := by
  rcases pl with ⟨a1, a2⟩ | ⟨a1, a2⟩
  · first
      | exact Or.inl ⟨rfl, (lnR_s (by omega)).mpr (Or.inl a2)⟩
      | (exfalso; omega)
  · first
      | exact Or.inr ⟨rfl, fun h => ((lnR_s (by omega)).mp h).elim a2 (fun h9 => by
          obtain ⟨h1, h2, h3, h4⟩ := h9
          omega)⟩
      | exact Or.inl ⟨rfl, (lnR_s (by omega)).mpr (Or.inr ⟨by omega, by omega, by omega, by omega⟩)⟩
      | (exfalso; omega)
theorem v_X11_leansOn_89_11 {K : Nat → Nat} {F : Nat → Nat → Nat} (a : Nat) (G : XG) (l5_6 : Int32) (l6_6 : Int32) (p0 : Int32) (p1 : Int32) (p2 : Int32) (p3 : Int32) (N6 : Nat) (x21 : Int32) (x66 : Int32)
    (ha : K a = 13)
    (pl : (l5_6.toInt = 1 ∧ lnR (G.2.1 (F a 10)) (G.2.1 (F a 1)) l6_6.toInt p0.toInt p1.toInt p2.toInt p3.toInt) ∨ (l5_6.toInt = 0 ∧ ¬ lnR (G.2.1 (F a 10)) (G.2.1 (F a 1)) l6_6.toInt p0.toInt p1.toInt p2.toInt p3.toInt))
    (e0 : 0 ≤ p0.toInt ∧ p0.toInt < 3 ∧ 0 ≤ p1.toInt ∧ p1.toInt < 30)
    (e1 : 0 ≤ p3.toInt ∧ p3.toInt < 30)
    (I6_0 : 0 ≤ l6_6.toInt ∧ l6_6.toInt ≤ 12)
    (hm6 : 100 - l6_6.toInt < (((N6) + 1 : Nat) : Int))
    (c10 : ¬ ((12 : Int) ≤ l6_6.toInt))
    (c15 : ¬ (l5_6.toInt ≠ 0))
    (t21 : (x21.toInt = 1 ∧ 0 ≤ l6_6.toInt ∧ l6_6.toInt ≤ 11 ∧ (aI (G.2.1 (F a 10)) (10 * l6_6.toInt + 0)) ≠ -1) ∨ (x21.toInt = 0 ∧ (¬ (0 ≤ l6_6.toInt ∧ l6_6.toInt ≤ 11) ∨ (aI (G.2.1 (F a 10)) (10 * l6_6.toInt + 0)) = -1)))
    (c24 : ¬ (x21.toInt = 0))
    (z27 : (-1 ≤ (aI (G.2.1 (F a 10)) (10 * l6_6.toInt + 0)) ∧ (aI (G.2.1 (F a 10)) (10 * l6_6.toInt + 0)) ≤ 5) ∧ (0 ≤ (aI (G.2.1 (F a 10)) (10 * l6_6.toInt + 1)) ∧ (aI (G.2.1 (F a 10)) (10 * l6_6.toInt + 1)) ≤ 2) ∧ (0 ≤ (aI (G.2.1 (F a 10)) (10 * l6_6.toInt + 2)) ∧ (aI (G.2.1 (F a 10)) (10 * l6_6.toInt + 2)) ≤ 2) ∧ (-1 ≤ (aI (G.2.1 (F a 10)) (10 * l6_6.toInt + 3)) ∧ (aI (G.2.1 (F a 10)) (10 * l6_6.toInt + 3)) ≤ 2) ∧ ((aI (G.2.1 (F a 10)) (10 * l6_6.toInt + 0)) = 1 ∨ (aI (G.2.1 (F a 10)) (10 * l6_6.toInt + 0)) = 3 ∨ (aI (G.2.1 (F a 10)) (10 * l6_6.toInt + 0)) = 4 → 0 ≤ (aI (G.2.1 (F a 10)) (10 * l6_6.toInt + 3))))
    (c35 : ¬ ((aI (G.2.1 (F a 10)) (10 * l6_6.toInt + 0)) ≠ (1 : Int)))
    (c46 : ¬ ((aI (G.2.1 (F a 10)) (10 * l6_6.toInt + 3)) ≠ p2.toInt))
    (c57 : ¬ ((aI (G.2.1 (F a 10)) (10 * l6_6.toInt + 1)) ≠ p0.toInt))
    (t66 : 0 ≤ p0.toInt ∧ p0.toInt ≤ 2 ∧ 0 ≤ p1.toInt ∧ p1.toInt ≤ 29 → x66.toInt = 4 * (30 * p0.toInt + p1.toInt))
    (c82 : (aI (G.2.1 (F a 1)) (4 * (30 * p0.toInt + p1.toInt) + 1 + (aI (G.2.1 (F a 10)) (10 * l6_6.toInt + 2)))) ≠ p3.toInt) :
    ((0 : Int) = 1 ∧ lnR (G.2.1 (F a 10)) (G.2.1 (F a 1)) (l6_6.toInt + 1) p0.toInt p1.toInt p2.toInt p3.toInt) ∨ ((0 : Int) = 0 ∧ ¬ lnR (G.2.1 (F a 10)) (G.2.1 (F a 1)) (l6_6.toInt + 1) p0.toInt p1.toInt p2.toInt p3.toInt) := by
  rcases pl with ⟨a1, a2⟩ | ⟨a1, a2⟩
  · first
      | exact Or.inl ⟨rfl, (lnR_s (by omega)).mpr (Or.inl a2)⟩
      | (exfalso; omega)
  · first
      | exact Or.inr ⟨rfl, fun h => ((lnR_s (by omega)).mp h).elim a2 (fun h9 => by
          obtain ⟨h1, h2, h3, h4⟩ := h9
          omega)⟩
      | exact Or.inl ⟨rfl, (lnR_s (by omega)).mpr (Or.inr ⟨by omega, by omega, by omega, by omega⟩)⟩
      | (exfalso; omega)
theorem v_X11_leansOn_86_12 {K : Nat → Nat} {F : Nat → Nat → Nat} (a : Nat) (G : XG) (l5_6 : Int32) (l6_6 : Int32) (p0 : Int32) (p1 : Int32) (p2 : Int32) (p3 : Int32) (N6 : Nat) (x21 : Int32) (x66 : Int32)
    (ha : K a = 13)
    (pl : (l5_6.toInt = 1 ∧ lnR (G.2.1 (F a 10)) (G.2.1 (F a 1)) l6_6.toInt p0.toInt p1.toInt p2.toInt p3.toInt) ∨ (l5_6.toInt = 0 ∧ ¬ lnR (G.2.1 (F a 10)) (G.2.1 (F a 1)) l6_6.toInt p0.toInt p1.toInt p2.toInt p3.toInt))
    (e0 : 0 ≤ p0.toInt ∧ p0.toInt < 3 ∧ 0 ≤ p1.toInt ∧ p1.toInt < 30)
    (e1 : 0 ≤ p3.toInt ∧ p3.toInt < 30)
    (I6_0 : 0 ≤ l6_6.toInt ∧ l6_6.toInt ≤ 12)
    (hm6 : 100 - l6_6.toInt < (((N6) + 1 : Nat) : Int))
    (c10 : ¬ ((12 : Int) ≤ l6_6.toInt))
    (c15 : ¬ (l5_6.toInt ≠ 0))
    (t21 : (x21.toInt = 1 ∧ 0 ≤ l6_6.toInt ∧ l6_6.toInt ≤ 11 ∧ (aI (G.2.1 (F a 10)) (10 * l6_6.toInt + 0)) ≠ -1) ∨ (x21.toInt = 0 ∧ (¬ (0 ≤ l6_6.toInt ∧ l6_6.toInt ≤ 11) ∨ (aI (G.2.1 (F a 10)) (10 * l6_6.toInt + 0)) = -1)))
    (c24 : ¬ (x21.toInt = 0))
    (z27 : (-1 ≤ (aI (G.2.1 (F a 10)) (10 * l6_6.toInt + 0)) ∧ (aI (G.2.1 (F a 10)) (10 * l6_6.toInt + 0)) ≤ 5) ∧ (0 ≤ (aI (G.2.1 (F a 10)) (10 * l6_6.toInt + 1)) ∧ (aI (G.2.1 (F a 10)) (10 * l6_6.toInt + 1)) ≤ 2) ∧ (0 ≤ (aI (G.2.1 (F a 10)) (10 * l6_6.toInt + 2)) ∧ (aI (G.2.1 (F a 10)) (10 * l6_6.toInt + 2)) ≤ 2) ∧ (-1 ≤ (aI (G.2.1 (F a 10)) (10 * l6_6.toInt + 3)) ∧ (aI (G.2.1 (F a 10)) (10 * l6_6.toInt + 3)) ≤ 2) ∧ ((aI (G.2.1 (F a 10)) (10 * l6_6.toInt + 0)) = 1 ∨ (aI (G.2.1 (F a 10)) (10 * l6_6.toInt + 0)) = 3 ∨ (aI (G.2.1 (F a 10)) (10 * l6_6.toInt + 0)) = 4 → 0 ≤ (aI (G.2.1 (F a 10)) (10 * l6_6.toInt + 3))))
    (c35 : ¬ ((aI (G.2.1 (F a 10)) (10 * l6_6.toInt + 0)) ≠ (1 : Int)))
    (c46 : ¬ ((aI (G.2.1 (F a 10)) (10 * l6_6.toInt + 3)) ≠ p2.toInt))
    (c57 : ¬ ((aI (G.2.1 (F a 10)) (10 * l6_6.toInt + 1)) ≠ p0.toInt))
    (t66 : 0 ≤ p0.toInt ∧ p0.toInt ≤ 2 ∧ 0 ≤ p1.toInt ∧ p1.toInt ≤ 29 → x66.toInt = 4 * (30 * p0.toInt + p1.toInt))
    (c82 : ¬ ((aI (G.2.1 (F a 1)) (4 * (30 * p0.toInt + p1.toInt) + 1 + (aI (G.2.1 (F a 10)) (10 * l6_6.toInt + 2)))) ≠ p3.toInt)) :
    ((1 : Int) = 1 ∧ lnR (G.2.1 (F a 10)) (G.2.1 (F a 1)) (l6_6.toInt + 1) p0.toInt p1.toInt p2.toInt p3.toInt) ∨ ((1 : Int) = 0 ∧ ¬ lnR (G.2.1 (F a 10)) (G.2.1 (F a 1)) (l6_6.toInt + 1) p0.toInt p1.toInt p2.toInt p3.toInt) := by
  rcases pl with ⟨a1, a2⟩ | ⟨a1, a2⟩
  · first
      | exact Or.inl ⟨rfl, (lnR_s (by omega)).mpr (Or.inl a2)⟩
      | (exfalso; omega)
  · first
      | exact Or.inr ⟨rfl, fun h => ((lnR_s (by omega)).mp h).elim a2 (fun h9 => by
          obtain ⟨h1, h2, h3, h4⟩ := h9
          omega)⟩
      | exact Or.inl ⟨rfl, (lnR_s (by omega)).mpr (Or.inr ⟨by omega, by omega, by omega, by omega⟩)⟩
      | (exfalso; omega)
theorem v_X11_leansOn_4_13 {K : Nat → Nat} {F : Nat → Nat → Nat} (a : Nat) (G : XG) (p0 : Int32) (p1 : Int32) (p3 : Int32) (p2 : Int32)
    (ha : K a = 13)
    (e0 : 0 ≤ p0.toInt ∧ p0.toInt < 3 ∧ 0 ≤ p1.toInt ∧ p1.toInt < 30)
    (e1 : 0 ≤ p3.toInt ∧ p3.toInt < 30) :
    ((0 : Int) = 1 ∧ lnR (G.2.1 (F a 10)) (G.2.1 (F a 1)) (0 : Int) p0.toInt p1.toInt p2.toInt p3.toInt) ∨ ((0 : Int) = 0 ∧ ¬ lnR (G.2.1 (F a 10)) (G.2.1 (F a 1)) (0 : Int) p0.toInt p1.toInt p2.toInt p3.toInt) := by
  exact Or.inr ⟨rfl, lnR_0 (by omega)⟩
