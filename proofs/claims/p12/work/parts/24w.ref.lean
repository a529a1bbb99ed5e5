theorem z_X11_firstFailing_1 (a0 : Int) (h0 : -2147483648 ≤ a0 ∧ a0 < 2147483648) : ¬ (2147483648 - a0 < ((0 : Nat) : Int)) := by omega
theorem z_X11_firstFailing_2 (a0 : Int) (h0 : 0 ≤ a0 ∧ a0 ≤ 2400) : -1 ≤ (-1 : Int) ∧ (-1 : Int) < a0 := by omega
theorem z_X11_firstFailing_3 (a0 : Int) (a1 : Int) (h0 : 0 ≤ a0 ∧ a0 ≤ a1) (h1 : ¬ (a1 ≤ a0)) : 0 ≤ a0 ∧ a0 < a1 := by omega
theorem z_X11_firstFailing_4 (a0 : Int) (a1 : Int) (h0 : 0 ≤ a1 ∧ a1 ≤ 2400) (h1 : 0 ≤ a0 ∧ a0 ≤ a1) (h2 : ¬ (a1 ≤ a0)) : 0 ≤ a0 ∧ a0 < ((2400 : Nat) : Int) := by omega
theorem z_X11_firstFailing_9 (a0 : Int) (a1 : Int) (a2 : Int) (h0 : 0 ≤ a2 ∧ a2 ≤ 2400) (h1 : 0 ≤ a0 ∧ a0 ≤ a2) (h2 : a1 = (a0 + 1) ∨ (a0 + 1) < -2147483648 ∨ 2147483648 ≤ (a0 + 1)) : a1 = (a0 + 1) := by omega
theorem z_X11_firstFailing_10 (a0 : Int) (a1 : Int) (h0 : 0 ≤ a0 ∧ a0 ≤ a1) (h1 : ¬ (a1 ≤ a0)) : 0 ≤ (a0 + 1) ∧ (a0 + 1) ≤ a1 := by omega
theorem z_X11_firstFailing_11 (a0 : Int) (a1 : Int) (h0 : 0 ≤ a0 ∧ a0 ≤ a1) : (0 : Int) ≤ (a0 + 1) := by omega
theorem z_X11_firstFailing_12 (a0 : Int) (a1 : Nat) (h0 : 2147483648 - a0 < ((a1 + 1 : Nat) : Int)) : 2147483648 - (a0 + 1) < ((a1 : Nat) : Int) := by omega
theorem z_X11_firstFailing_13 (a0 : Int) (a1 : Int) (h0 : 0 ≤ a0 ∧ a0 ≤ a1) (h1 : ¬ (a1 ≤ a0)) : -1 ≤ a0 ∧ a0 < a1 := by omega
theorem z_X11_firstFailing_14 (a0 : Int) (h0 : 0 ≤ a0 ∧ a0 ≤ 2400) : 0 ≤ (0 : Int) ∧ (0 : Int) ≤ a0 := by omega
abbrev rm_X11_firstFailing : Room := { frames := 4, cells := 0, slots := 0, locals := 104 }
set_option maxHeartbeats 4000000 in
set_option maxRecDepth 100000 in
theorem c_X11_firstFailing (l : Launch) (E : XE) (K : Nat → Nat) (F : Nat → Nat → Nat) (G : XG) (h0 : Heap) (a : Nat) (ha : K a = 13) (s0 : 0 ≤ ((G.1 a 19).toInt) ∧ ((G.1 a 19).toInt) ≤ 2400) (hR : RV (G.2.1 (F a 10))) (hM : RM (G.2.1 (F a 1)) (0)) (hv : PV (G.2.1 (F a 10)) (pL G F a)) : Met l yX11_firstFailing (xw yX11_firstFailing cX11_firstFailing 2 (some .int)) rm_X11_firstFailing (va_Pc [.ref a] (XPh E K F G h0)) (XQ E (fun v (u : Unit) => ∃ r : Int32, v = .int r ∧ (-1 ≤ r.toInt ∧ r.toInt < ((G.1 a 19).toInt)) ∧ (r.toInt = ffP (G.2.1 (F a 10)) (mw (G.2.1 (F a 1)) 0) (pL G F a))) (fun _ H => H = h0)) 0 0 (xA E) := by
  refine x_enter (by decide) (Nat.le_of_ble_eq_true rfl) ?_
  intro p e s m args below meth c Q S hr hlk hnm hQ hP ls hl
  obtain ⟨⟨hz, hK, hT⟩, hh⟩ := hP
  obtain ⟨hx, hb, -, -, -⟩ := id S
  have hS : va_S (xA E) s.heap s.heap [] := va_S.rf
  have hl : lv_has ls 2 [(0, .ref a)] := hl
  obtain ⟨hk9999, hj9999⟩ := fkX11_17 hT ha
  obtain ⟨hk9999a, hj9999a⟩ := fkX11_18 hT ha
  obtain ⟨hk9999b, hj9999b⟩ := fkX11_10 hT ha
  obtain ⟨hk9999c, hj9999c⟩ := fkX11_1 hT ha
  refine lv_iconst (v := 0) hx hb dX11_firstFailing_0 (by decide) ?_
  refine lv_istore_n (lv' := [(1, .int 0), (0, .ref a)]) hx hb dX11_firstFailing_1 rfl hl (by decide) rfl (fun ls hl => ?_)
  have L2 : ∀ (N2 : Nat) (l1_2 : Int32) (locs : List Loc) (ls : Array Slot), (∀ j : Int, 0 ≤ j → j < l1_2.toInt → fzq (G.2.1 (F a 10)) (mw (G.2.1 (F a 1)) 0) (aI (G.2.1 (F a 17)) j) (aI (G.2.1 (F a 18)) j) = 0) → 0 ≤ l1_2.toInt ∧ l1_2.toInt ≤ ((G.1 a 19).toInt) → (0 : Int) ≤ l1_2.toInt → 2147483648 - l1_2.toInt < ((N2 : Nat) : Int) → TW E K F G s.heap → va_S (xA E) s.heap s.heap locs → lv_has ls 2 [(0, .ref a), (1, .int l1_2)] → W p l e rm_X11_firstFailing s m args below meth c s.heap locs 0 0 Q (F0 m 2 ls []) := by
    intro N2
    induction N2 with
    | zero =>
      intro l1_2 locs ls pf I2_0 I2_1 hm2
      exact absurd hm2 (z_X11_firstFailing_1 l1_2.toInt (xr l1_2))
    | succ N2 ih2 =>
      intro l1_2 locs ls pf I2_0 I2_1 hm2 hT hS hl
      refine lv_iload_n hx hb dX11_firstFailing_2 rfl (lv_at hl 1 rfl) ?_
      refine lv_aload_n hx hb dX11_firstFailing_3 rfl (lv_at hl 0 rfl) ?_
      refine gX11_19 S hK hT ha kf_X11_203 dX11_firstFailing_4 (v := (G.1 a 19)) rfl (?_)
      refine xi_cge (tgt := 42) hx hb (rfl : Int32.toInt l1_2 = l1_2.toInt) (rfl : Int32.toInt (G.1 a 19) = ((G.1 a 19).toInt)) dX11_firstFailing_7 (by decide) (fun c7 => ?_) (fun c7 => ?_)
      · refine lv_iconst (v := (-1)) hx hb dX11_firstFailing_42 (by decide) ?_
        exact x_ri hx hb hr hlk hQ (Nat.le_of_ble_eq_true rfl) (Nat.le_of_ble_eq_true rfl) hS dX11_firstFailing_43 () ⟨_, rfl, (by rw [((by decide) : Int32.toInt (-1) = (-1 : Int))] <;> exact (z_X11_firstFailing_2 ((G.1 a 19).toInt) s0)), (by rw [((by decide) : Int32.toInt (-1) = (-1 : Int))] <;> exact (v_X11_firstFailing_43_1 (K := K) (F := F) a G l1_2 N2 ha pf s0 I2_0 I2_1 hm2 c7))⟩ hh
      · have z10 : (0 ≤ (aI (G.2.1 (F a 17)) (l1_2.toInt)) ∧ (aI (G.2.1 (F a 17)) (l1_2.toInt)) ≤ 11) ∧ (aI (G.2.1 (F a 10)) (10 * (aI (G.2.1 (F a 17)) (l1_2.toInt)) + 0)) ≠ -1 ∧ ((sF (aI (G.2.1 (F a 10)) (10 * (aI (G.2.1 (F a 17)) (l1_2.toInt)) + 0))) ≤ (aI (G.2.1 (F a 18)) (l1_2.toInt)) ∧ (aI (G.2.1 (F a 18)) (l1_2.toInt)) ≤ (sL (aI (G.2.1 (F a 10)) (10 * (aI (G.2.1 (F a 17)) (l1_2.toInt)) + 0)))) := pv_at hv (z_X11_firstFailing_3 l1_2.toInt ((G.1 a 19).toInt) I2_0 c7)
        refine lv_aload_n hx hb dX11_firstFailing_10 rfl (lv_at hl 0 rfl) ?_
        refine lv_aload_n hx hb dX11_firstFailing_11 rfl (lv_at hl 0 rfl) ?_
        refine gX11_17 S hK hT ha kf_X11_51 dX11_firstFailing_12 (fun _ _ => ?_)
        refine lv_iload_n hx hb dX11_firstFailing_15 rfl (lv_at hl 1 rfl) ?_
        refine al_0 S hK hT hk9999 ar_43 (by decide) (z_X11_firstFailing_4 l1_2.toInt ((G.1 a 19).toInt) s0 I2_0 c7) dX11_firstFailing_16 (fun x16 hv16 o16 => ?_)
        have hv16 : x16.toInt = (aI (G.2.1 (F a 17)) (l1_2.toInt)) := hv16.trans (by rw [(rfl : Int32.toInt l1_2 = l1_2.toInt)])
        refine lv_aload_n hx hb dX11_firstFailing_17 rfl (lv_at hl 0 rfl) ?_
        refine gX11_18 S hK hT ha kf_X11_54 dX11_firstFailing_18 (fun _ _ => ?_)
        refine lv_iload_n hx hb dX11_firstFailing_21 rfl (lv_at hl 1 rfl) ?_
        refine al_0 S hK hT hk9999a ar_44 (by decide) (z_X11_firstFailing_4 l1_2.toInt ((G.1 a 19).toInt) s0 I2_0 c7) dX11_firstFailing_22 (fun x22 hv22 o22 => ?_)
        have hv22 : x22.toInt = (aI (G.2.1 (F a 18)) (l1_2.toInt)) := hv22.trans (by rw [(rfl : Int32.toInt l1_2 = l1_2.toInt)])
        refine lv_aload_n hx hb dX11_firstFailing_23 rfl (lv_at hl 0 rfl) ?_
        refine gX11_1 S hK hT ha kf_X11_9 dX11_firstFailing_24 (fun _ _ => ?_)
        refine lv_iconst (v := 0) hx hb dX11_firstFailing_27 (by decide) ?_
        refine x_clp (x_runV (b := a) (As := [.int x16, .int x22, .ref (F a 1), .int 0]) (rest := []) S (c_X11_fails l E K F G s.heap a x16 x22 (F a 1) 0 ha (XO.a hk9999c (by decide)) (by rw [(hv16 : Int32.toInt x16 = (aI (G.2.1 (F a 17)) (l1_2.toInt)))] <;> exact ((z10).1)) (by rw [(hv16 : Int32.toInt x16 = (aI (G.2.1 (F a 17)) (l1_2.toInt)))] <;> exact ((z10).2.1)) (by rw [(hv16 : Int32.toInt x16 = (aI (G.2.1 (F a 17)) (l1_2.toInt))), (hv22 : Int32.toInt x22 = (aI (G.2.1 (F a 18)) (l1_2.toInt)))] <;> exact ((z10).2.2)) (v_X11_firstFailing_28_2 (F := F) a G hR) (v_X11_firstFailing_28_3 (K := K) (F := F) a G l1_2 x16 x22 N2 ha hk9999 hj9999 hk9999a hj9999a hk9999b hj9999b hk9999c hj9999c hR hM hv pf hv16 hv22 s0 I2_0 I2_1 hm2 c7 z10)) mv_X11_fails km_X11_221 rfl rfl ⟨Nat.le_of_ble_eq_true rfl, Nat.le_of_ble_eq_true rfl⟩ (rc_13 hK hT ha) hK (fun _ => XPh.blind) (fun U hU hW => XPh.at hK hz hS hT hU hW) rfl hl.1 (Nat.le_of_ble_eq_true rfl) dX11_firstFailing_28 ⟨Nat.le_of_ble_eq_true rfl, Nat.le_of_ble_eq_true rfl⟩) hS ?_
        rintro _ _ locs ⟨x28, rfl, b28, t28⟩ hS
        have t28 : x28.toInt = (flq (mw (G.2.1 (F a 1)) 0) (aI (G.2.1 (F a 10)) (10 * (aI (G.2.1 (F a 17)) (l1_2.toInt)) + 0)) (aI (G.2.1 (F a 10)) (10 * (aI (G.2.1 (F a 17)) (l1_2.toInt)) + 1)) (aI (G.2.1 (F a 10)) (10 * (aI (G.2.1 (F a 17)) (l1_2.toInt)) + 2)) (aI (G.2.1 (F a 10)) (10 * (aI (G.2.1 (F a 17)) (l1_2.toInt)) + 4)) (aI (G.2.1 (F a 10)) (10 * (aI (G.2.1 (F a 17)) (l1_2.toInt)) + 5)) (aI (G.2.1 (F a 18)) (l1_2.toInt)) (stt (mw (G.2.1 (F a 1)) 0) (aI (G.2.1 (F a 10)) (10 * (aI (G.2.1 (F a 17)) (l1_2.toInt)) + 0)) (aI (G.2.1 (F a 10)) (10 * (aI (G.2.1 (F a 17)) (l1_2.toInt)) + 1)) (aI (G.2.1 (F a 10)) (10 * (aI (G.2.1 (F a 17)) (l1_2.toInt)) + 2)) (aI (G.2.1 (F a 10)) (10 * (aI (G.2.1 (F a 17)) (l1_2.toInt)) + 3)) (aI (G.2.1 (F a 18)) (l1_2.toInt)))) := by rw [(hv16 : Int32.toInt x16 = (aI (G.2.1 (F a 17)) (l1_2.toInt)))] at t28; rw [(hv22 : Int32.toInt x22 = (aI (G.2.1 (F a 18)) (l1_2.toInt)))] at t28; exact t28
        refine xi_zeq (tgt := 36) hx hb (rfl : Int32.toInt x28 = x28.toInt) dX11_firstFailing_31 (by decide) (fun c31 => ?_) (fun c31 => ?_)
        · refine xi_iinc (n := 1) (lv' := fun z9 => [(1, .int z9), (0, .ref a)]) (k := 1) hx hb (rfl : Int32.toInt l1_2 = l1_2.toInt) (by decide) dX11_firstFailing_36 hl rfl (by decide) (fun _ => rfl) (fun x36 ls t36 hl => ?_)
          have e36 : x36.toInt = (l1_2.toInt + 1) := (z_X11_firstFailing_9 l1_2.toInt x36.toInt ((G.1 a 19).toInt) s0 I2_0 t36)
          have hl : lv_has ls 2 [(1, .int x36), (0, .ref a)] := hl
          refine lv_goto (tgt := 2) hx hb dX11_firstFailing_39 (by decide) ?_
          exact ih2 x36 _ _ (by rw [(e36 : Int32.toInt x36 = (l1_2.toInt + 1))] <;> exact (v_X11_firstFailing_39_4 (K := K) (F := F) a G l1_2 N2 x28 ha pf s0 I2_0 I2_1 hm2 c7 z10 t28 (xzi b28) c31)) (by rw [(e36 : Int32.toInt x36 = (l1_2.toInt + 1))] <;> exact (z_X11_firstFailing_10 l1_2.toInt ((G.1 a 19).toInt) I2_0 c7)) (by rw [(e36 : Int32.toInt x36 = (l1_2.toInt + 1))] <;> exact (z_X11_firstFailing_11 l1_2.toInt ((G.1 a 19).toInt) I2_0)) (by rw [(e36 : Int32.toInt x36 = (l1_2.toInt + 1))] <;> exact (z_X11_firstFailing_12 l1_2.toInt N2 hm2)) hT hS (lv_sub hl [1, 0] rfl)
        · refine lv_iload_n hx hb dX11_firstFailing_34 rfl (lv_at hl 1 rfl) ?_
          exact x_ri hx hb hr hlk hQ (Nat.le_of_ble_eq_true rfl) (Nat.le_of_ble_eq_true rfl) hS dX11_firstFailing_35 () ⟨_, rfl, (z_X11_firstFailing_13 l1_2.toInt ((G.1 a 19).toInt) I2_0 c7), (v_X11_firstFailing_35_5 (K := K) (F := F) a G l1_2 N2 x28 ha pf s0 I2_0 I2_1 hm2 c7 z10 t28 (xzi b28) c31)⟩ hh
  exact L2 4294967297 0 _ _ (v_X11_firstFailing_1_6 (K := K) (F := F) a G ha s0) (z_X11_firstFailing_14 ((G.1 a 19).toInt) s0) (by decide) (by decide) hT hS (lv_sub hl [1, 0] rfl)

abbrev rm_X11_findQueue : Room := { frames := 4, cells := 0, slots := 0, locals := 102 }
set_option maxHeartbeats 4000000 in
set_option maxRecDepth 100000 in
theorem c_X11_findQueue (l : Launch) (E : XE) (K : Nat → Nat) (F : Nat → Nat → Nat) (G : XG) (a : Nat) (ha : K a = 13) (hR : RV (G.2.1 (F a 10))) (hM : RM (G.2.1 (F a 1)) (0)) (hB : RM (G.2.1 (F a 2)) 0) : Met l yX11_findQueue (xw yX11_findQueue cX11_findQueue 1 none) rm_X11_findQueue (va_Pc [.ref a] (XP E K F G)) (XQv E (fun (u : XG) => XFr [(a, 16), (a, 19)] [F a 15, F a 17, F a 18, F a 11, F a 13] [] G u ∧ (0 ≤ ((u.1 a 19).toInt) ∧ ((u.1 a 19).toInt) ≤ 2388) ∧ (pL u F a = if ((G.1 a 6).toInt) = 0 then [] else fuO (G.2.1 (F a 10)) (mw (G.2.1 (F a 1)) 0) (mw (G.2.1 (F a 2)) 0) 1) ∧ (((G.1 a 6).toInt) ≠ 0 → LSt (G.2.1 (F a 10)) (u.2.1 (F a 11)) (mw (G.2.1 (F a 1)) 0) 12 ∧ LSt (G.2.1 (F a 10)) (u.2.1 (F a 13)) (mw (G.2.1 (F a 2)) 0) 12) ∧ (u.2.2.2 = G.2.2.2)) (fun u H => TW E K F u H)) 0 0 (xA E) := by
  refine x_enter (by decide) (Nat.le_of_ble_eq_true rfl) ?_
  intro p e s m args below meth c Q S hr hlk hnm hQ hP ls hl
  obtain ⟨hz, hK, hT⟩ := hP
  obtain ⟨hx, hb, -, -, -⟩ := id S
  obtain ⟨H, hT, hS, hgo⟩ : ∃ H : Heap, TW E K F G H ∧ va_S (xA E) s.heap H [] ∧ H = s.heap := ⟨_, hT, va_S.rf, rfl⟩
  rw [← hgo]
  have hl : lv_has ls 1 [(0, .ref a)] := hl
  obtain ⟨hk9999, hj9999⟩ := fkX11_15 hT ha
  obtain ⟨hk9999a, hj9999a⟩ := fkX11_17 hT ha
  obtain ⟨hk9999b, hj9999b⟩ := fkX11_18 hT ha
  obtain ⟨hk9999c, hj9999c⟩ := fkX11_11 hT ha
  obtain ⟨hk9999d, hj9999d⟩ := fkX11_13 hT ha
  obtain ⟨hk9999e, hj9999e⟩ := fkX11_10 hT ha
  obtain ⟨hk9999f, hj9999f⟩ := fkX11_1 hT ha
  obtain ⟨hk9999g, hj9999g⟩ := fkX11_2 hT ha
  refine lv_aload_n hx hb dX11_findQueue_0 rfl (lv_at hl 0 rfl) ?_
  refine lv_iconst (v := 0) hx hb dX11_findQueue_1 (by decide) ?_
  refine pX11_19 (v := 0) S hK hT hS ha kf_X11_203 dX11_findQueue_2 (fun H locs hT hS => ?_)
  obtain ⟨G2, hG2⟩ : ∃ GG : XG, GG = dput G a 19 0 := ⟨_, rfl⟩
  rw [← hG2] at hT
  refine lv_aload_n hx hb dX11_findQueue_5 rfl (lv_at hl 0 rfl) ?_
  refine gX11_6 S hK hT ha kf_X11_206 dX11_findQueue_6 (v := (G.1 a 6)) (ld_j hG2 (by decide)) (fun hz6 => ?_)
  refine xi_zeq (tgt := 51) hx hb (rfl : Int32.toInt (G.1 a 6) = ((G.1 a 6).toInt)) dX11_findQueue_9 (by decide) (fun c9 => ?_) (fun c9 => ?_)
  · exact x_rv hx hb hr hlk hQ (Nat.le_of_ble_eq_true rfl) (Nat.le_of_ble_eq_true rfl) hS dX11_findQueue_51 G2 ⟨(by rw [hG2]; exact XFr.dput XFr.rf (List.mem_of_getElem? (i := 1) rfl)), (by rw [(show (G2.1 a 19).toInt = (0 : Int) from (congrArg Int32.toInt (ld_at hG2)).trans ((by decide) : Int32.toInt 0 = (0 : Int)))] <;> exact (by decide)), (v_X11_findQueue_51_1 (K := K) (F := F) a G2 G ha (xzi hz6) c9 (ld_at hG2)), (v_X11_findQueue_51_2 (F := F) a G2 G c9), (v_X11_findQueue_51_3 a G2 G hG2)⟩ hT
  · refine lv_aload_n hx hb dX11_findQueue_12 rfl (lv_at hl 0 rfl) ?_
    refine lv_aload_n hx hb dX11_findQueue_13 rfl (lv_at hl 0 rfl) ?_
    refine gX11_11 S hK hT ha kf_X11_36 dX11_findQueue_14 (fun _ _ => ?_)
    refine lv_aload_n hx hb dX11_findQueue_17 rfl (lv_at hl 0 rfl) ?_
    refine gX11_1 S hK hT ha kf_X11_9 dX11_findQueue_18 (fun _ _ => ?_)
    refine lv_iconst (v := 0) hx hb dX11_findQueue_21 (by decide) ?_
    refine x_cv0 (x_runV (b := a) (As := [.ref (F a 11), .ref (F a 1), .int 0]) (rest := []) S (c_X11_layStates l E K F G2 a (F a 11) (F a 1) 0 ha hk9999c (XO.a hk9999f (by decide)) (v_X11_findQueue_22_4 (F := F) a G2 G hR (ld_c hG2)) (v_X11_findQueue_22_5 (F := F) a G2 G hM hB (ld_c hG2))) mv_X11_layStates km_X11_210 rfl rfl ⟨Nat.le_of_ble_eq_true rfl, Nat.le_of_ble_eq_true rfl⟩ (rc_13 hK hT ha) hK (fun _ => XP.blind) (fun U hU hW => XP.at hK hz hS hT hU hW) rfl hl.1 (Nat.le_of_ble_eq_true rfl) dX11_findQueue_22 ⟨Nat.le_of_ble_eq_true rfl, Nat.le_of_ble_eq_true rfl⟩) hS ?_
    rintro G22 H locs ⟨hF22, oq22, oq22a⟩ hT hS
    have oq22 : LSt (G.2.1 (F a 10)) (G22.2.1 (F a 11)) (mw (G.2.1 (F a 1)) (0 : Int)) 12 := by simp only [(show G2.2.1 (F a 10) = G.2.1 (F a 10) from (ld_c hG2)), (show G2.2.1 (F a 1) = G.2.1 (F a 1) from (ld_c hG2))] at oq22; exact oq22
    refine lv_aload_n hx hb dX11_findQueue_25 rfl (lv_at hl 0 rfl) ?_
    refine lv_aload_n hx hb dX11_findQueue_26 rfl (lv_at hl 0 rfl) ?_
    refine gX11_13 S hK hT ha kf_X11_42 dX11_findQueue_27 (fun _ _ => ?_)
    refine lv_aload_n hx hb dX11_findQueue_30 rfl (lv_at hl 0 rfl) ?_
    refine gX11_2 S hK hT ha kf_X11_15 dX11_findQueue_31 (fun _ _ => ?_)
    refine lv_iconst (v := 0) hx hb dX11_findQueue_34 (by decide) ?_
    refine x_cv0 (x_runV (b := a) (As := [.ref (F a 13), .ref (F a 2), .int 0]) (rest := []) S (c_X11_layStates l E K F G22 a (F a 13) (F a 2) 0 ha hk9999d (XO.b hk9999g (by decide)) (v_X11_findQueue_35_6 (F := F) a G G22 hR ((hF22.2.1 _ (xn1 (xne_k hk9999e hk9999c (by decide)) xn0)).trans (ld_c hG2))) (v_X11_findQueue_35_7 (F := F) a G G22 hM hB ((hF22.2.1 _ (xn1 (xne_k hk9999g hk9999c (by decide)) xn0)).trans (ld_c hG2)))) mv_X11_layStates km_X11_210 rfl rfl ⟨Nat.le_of_ble_eq_true rfl, Nat.le_of_ble_eq_true rfl⟩ (rc_13 hK hT ha) hK (fun _ => XP.blind) (fun U hU hW => XP.at hK hz hS hT hU hW) rfl hl.1 (Nat.le_of_ble_eq_true rfl) dX11_findQueue_35 ⟨Nat.le_of_ble_eq_true rfl, Nat.le_of_ble_eq_true rfl⟩) hS ?_
    rintro G35 H locs ⟨hF35, oq35, oq35a⟩ hT hS
    have oq35 : LSt (G.2.1 (F a 10)) (G35.2.1 (F a 13)) (mw (G.2.1 (F a 2)) (0 : Int)) 12 := by simp only [(show G22.2.1 (F a 10) = G.2.1 (F a 10) from ((hF22.2.1 _ (xn1 (xne_k hk9999e hk9999c (by decide)) xn0)).trans (ld_c hG2))), (show G22.2.1 (F a 2) = G.2.1 (F a 2) from ((hF22.2.1 _ (xn1 (xne_k hk9999g hk9999c (by decide)) xn0)).trans (ld_c hG2)))] at oq35; exact oq35
    refine lv_aload_n hx hb dX11_findQueue_38 rfl (lv_at hl 0 rfl) ?_
    refine lv_iconst (v := 1) hx hb dX11_findQueue_39 (by decide) ?_
    refine lv_aload_n hx hb dX11_findQueue_40 rfl (lv_at hl 0 rfl) ?_
    refine gX11_11 S hK hT ha kf_X11_36 dX11_findQueue_41 (fun _ _ => ?_)
    refine lv_aload_n hx hb dX11_findQueue_44 rfl (lv_at hl 0 rfl) ?_
    refine gX11_13 S hK hT ha kf_X11_42 dX11_findQueue_45 (fun _ _ => ?_)
    refine x_cv0 (x_runV (b := a) (As := [.int 1, .ref (F a 11), .ref (F a 13)]) (rest := []) S (c_X11_findUnlike l E K F G35 a 1 (F a 11) (F a 13) (mw (G.2.1 (F a 1)) 0) (mw (G.2.1 (F a 2)) 0) ha hk9999c hk9999d (v_X11_findQueue_48_8 (F := F) a G G35 hR ((hF35.2.1 _ (xn1 (xne_k hk9999e hk9999d (by decide)) xn0)).trans ((hF22.2.1 _ (xn1 (xne_k hk9999e hk9999c (by decide)) xn0)).trans (ld_c hG2)))) (v_X11_findQueue_48_9 (F := F) a G G22 G35 oq22 oq35 ((hF35.2.1 _ (xn1 (xne_k hk9999e hk9999d (by decide)) xn0)).trans ((hF22.2.1 _ (xn1 (xne_k hk9999e hk9999c (by decide)) xn0)).trans (ld_c hG2))) (hF35.2.1 _ (xn1 (xne_j hj9999c hj9999d (by first | decide | omega)) xn0))) (v_X11_findQueue_48_10 (F := F) a G G22 G35 oq22 oq35 ((hF35.2.1 _ (xn1 (xne_k hk9999e hk9999d (by decide)) xn0)).trans ((hF22.2.1 _ (xn1 (xne_k hk9999e hk9999c (by decide)) xn0)).trans (ld_c hG2))))) mv_X11_findUnlike km_X11_214 rfl rfl ⟨Nat.le_of_ble_eq_true rfl, Nat.le_of_ble_eq_true rfl⟩ (rc_13 hK hT ha) hK (fun _ => XP.blind) (fun U hU hW => XP.at hK hz hS hT hU hW) rfl hl.1 (Nat.le_of_ble_eq_true rfl) dX11_findQueue_48 ⟨Nat.le_of_ble_eq_true rfl, Nat.le_of_ble_eq_true rfl⟩) hS ?_
    rintro G48 H locs ⟨hF48, t48, oq48, oq48a, oq48b⟩ hT hS
    have t48 : 0 ≤ ((G48.1 a 19).toInt) ∧ ((G48.1 a 19).toInt) ≤ 2388 := t48
    have oq48 : pL G48 F a = fuL (G.2.1 (F a 10)) (mw (G.2.1 (F a 1)) 0) (mw (G.2.1 (F a 2)) 0) (1 : Int) (ordN (prM (G.2.1 (F a 10))) (rkM (G.2.1 (F a 10))) 12).2 (ordN (prM (G.2.1 (F a 10))) (rkM (G.2.1 (F a 10))) 12).1 := by simp only [(show G35.2.1 (F a 10) = G.2.1 (F a 10) from ((hF35.2.1 _ (xn1 (xne_k hk9999e hk9999d (by decide)) xn0)).trans ((hF22.2.1 _ (xn1 (xne_k hk9999e hk9999c (by decide)) xn0)).trans (ld_c hG2))))] at oq48; exact oq48
    have oq48a : ORm (G.2.1 (F a 10)) (G48.2.1 (F a 15)) ((G48.1 a 16).toInt) 12 := by simp only [(show G35.2.1 (F a 10) = G.2.1 (F a 10) from ((hF35.2.1 _ (xn1 (xne_k hk9999e hk9999d (by decide)) xn0)).trans ((hF22.2.1 _ (xn1 (xne_k hk9999e hk9999c (by decide)) xn0)).trans (ld_c hG2))))] at oq48a; exact oq48a
    exact x_rv hx hb hr hlk hQ (Nat.le_of_ble_eq_true rfl) (Nat.le_of_ble_eq_true rfl) hS dX11_findQueue_51 G48 ⟨(XFr.call (XFr.call (XFr.call (by rw [hG2]; exact XFr.dput XFr.rf (List.mem_of_getElem? (i := 1) rfl)) hF22 xm0 (xm1 3 rfl xm0) xm0) hF35 xm0 (xm1 4 rfl xm0) xm0) hF48 (xm1 0 rfl (xm1 1 rfl xm0)) (xm1 0 rfl (xm1 1 rfl (xm1 2 rfl xm0))) xm0), (t48), (v_X11_findQueue_51_11 (K := K) (F := F) a G2 G G22 G35 G48 ha oq22a oq35a oq48 oq48b (xzi hz6) c9 t48), (v_X11_findQueue_51_12 (F := F) a G G22 G35 G48 oq22 oq35 c9 ((hF48.2.1 _ (xn1 (xne_k hk9999c hk9999 (by decide)) (xn1 (xne_k hk9999c hk9999a (by decide)) (xn1 (xne_k hk9999c hk9999b (by decide)) xn0)))).trans (hF35.2.1 _ (xn1 (xne_j hj9999c hj9999d (by first | decide | omega)) xn0))) (hF48.2.1 _ (xn1 (xne_k hk9999d hk9999 (by decide)) (xn1 (xne_k hk9999d hk9999a (by decide)) (xn1 (xne_k hk9999d hk9999b (by decide)) xn0))))), (v_X11_findQueue_51_13 a G2 G G22 G35 G48 hG2 oq22a oq35a oq48b)⟩ hT

abbrev rm_X11_queueMany : Room := { frames := 5, cells := 0, slots := 0, locals := 122 }
set_option maxHeartbeats 4000000 in
set_option maxRecDepth 100000 in
theorem c_X11_queueMany (l : Launch) (E : XE) (K : Nat → Nat) (F : Nat → Nat → Nat) (G : XG) (a : Nat) (ha : K a = 13) (hR : RV (G.2.1 (F a 10))) (hM : RM (G.2.1 (F a 1)) (0)) (hB : RM (G.2.1 (F a 2)) 0) : Met l yX11_queueMany (xw yX11_queueMany cX11_queueMany 1 (some .int)) rm_X11_queueMany (va_Pc [.ref a] (XP E K F G)) (XQ E (fun v (u : XG) => ∃ r : Int32, v = .int r ∧ XFr [(a, 16), (a, 19)] [F a 15, F a 17, F a 18, F a 11, F a 13] [] G u ∧ (0 ≤ r.toInt ∧ r.toInt ≤ 2388) ∧ (pL u F a = if ((G.1 a 6).toInt) = 0 then [] else fuO (G.2.1 (F a 10)) (mw (G.2.1 (F a 1)) 0) (mw (G.2.1 (F a 2)) 0) 1) ∧ (r.toInt = ((u.1 a 19).toInt))) (fun u H => TW E K F u H)) 0 0 (xA E) := by
  refine x_enter (by decide) (Nat.le_of_ble_eq_true rfl) ?_
  intro p e s m args below meth c Q S hr hlk hnm hQ hP ls hl
  obtain ⟨hz, hK, hT⟩ := hP
  obtain ⟨hx, hb, -, -, -⟩ := id S
  obtain ⟨H, hT, hS, hgo⟩ : ∃ H : Heap, TW E K F G H ∧ va_S (xA E) s.heap H [] ∧ H = s.heap := ⟨_, hT, va_S.rf, rfl⟩
  rw [← hgo]
  have hl : lv_has ls 1 [(0, .ref a)] := hl
  obtain ⟨hk9999, hj9999⟩ := fkX11_15 hT ha
  obtain ⟨hk9999a, hj9999a⟩ := fkX11_17 hT ha
  obtain ⟨hk9999b, hj9999b⟩ := fkX11_18 hT ha
  obtain ⟨hk9999c, hj9999c⟩ := fkX11_11 hT ha
  obtain ⟨hk9999d, hj9999d⟩ := fkX11_13 hT ha
  obtain ⟨hk9999e, hj9999e⟩ := fkX11_10 hT ha
  obtain ⟨hk9999f, hj9999f⟩ := fkX11_1 hT ha
  obtain ⟨hk9999g, hj9999g⟩ := fkX11_2 hT ha
  refine lv_aload_n hx hb dX11_queueMany_0 rfl (lv_at hl 0 rfl) ?_
  refine x_cv0 (x_runV (b := a) (As := []) (rest := []) S (c_X11_findQueue l E K F G a ha (v_X11_queueMany_1_1 (F := F) a G hR) (v_X11_queueMany_1_2 (F := F) a G hM) (v_X11_queueMany_1_3 (F := F) a G hB)) mv_X11_findQueue km_X11_218 rfl rfl ⟨Nat.le_of_ble_eq_true rfl, Nat.le_of_ble_eq_true rfl⟩ (rc_13 hK hT ha) hK (fun _ => XP.blind) (fun U hU hW => XP.at hK hz hS hT hU hW) rfl hl.1 (Nat.le_of_ble_eq_true rfl) dX11_queueMany_1 ⟨Nat.le_of_ble_eq_true rfl, Nat.le_of_ble_eq_true rfl⟩) hS ?_
  rintro G1 H locs ⟨hF1, t1, oq1, oq1a, oq1b⟩ hT hS
  have t1 : 0 ≤ ((G1.1 a 19).toInt) ∧ ((G1.1 a 19).toInt) ≤ 2388 := t1
  refine lv_aload_n hx hb dX11_queueMany_4 rfl (lv_at hl 0 rfl) ?_
  refine gX11_19 S hK hT ha kf_X11_203 dX11_queueMany_5 (v := (G1.1 a 19)) rfl (?_)
  exact x_ri hx hb hr hlk hQ (Nat.le_of_ble_eq_true rfl) (Nat.le_of_ble_eq_true rfl) hS dX11_queueMany_8 G1 ⟨_, rfl, (XFr.call XFr.rf hF1 (xm1 0 rfl (xm1 1 rfl xm0)) (xm1 0 rfl (xm1 1 rfl (xm1 2 rfl (xm1 3 rfl (xm1 4 rfl xm0))))) xm0), (t1), (v_X11_queueMany_8_4 (F := F) a G G1 oq1), (v_X11_queueMany_8_5 a G1)⟩ hT

theorem z_X11_asks_1 (a0 : Int) (h0 : 0 ≤ a0 ∧ a0 ≤ 2388) : 0 ≤ a0 ∧ a0 ≤ 2400 := by omega
theorem z_X11_asks_2 (a0 : Int) (a1 : Int) (h0 : -1 ≤ a0 ∧ a0 < a1) : -1 ≤ a0 := by omega
abbrev rm_X11_asks : Room := { frames := 5, cells := 0, slots := 0, locals := 125 }
set_option maxHeartbeats 4000000 in
set_option maxRecDepth 100000 in
theorem c_X11_asks (l : Launch) (E : XE) (K : Nat → Nat) (F : Nat → Nat → Nat) (G : XG) (a : Nat) (p0 : Int32) (r1 : Int → Int) (ha : K a = 13) (hR : RV (G.2.1 (F a 10))) (hM : RM (G.2.1 (F a 1)) (0)) (h1 : LSt (G.2.1 (F a 10)) (G.2.1 (F a 12)) r1 12) (h2 : LSt (G.2.1 (F a 10)) (G.2.1 (F a 11)) (mw (G.2.1 (F a 1)) 0) 12) : Met l yX11_asks (xw yX11_asks cX11_asks 2 (some .int)) rm_X11_asks (va_Pc [.ref a, .int p0] (XP E K F G)) (XQ E (fun v (u : XG) => ∃ r : Int32, v = .int r ∧ XFr [(a, 16), (a, 19)] [F a 15, F a 17, F a 18] [] G u ∧ (-1 ≤ r.toInt) ∧ (pL u F a = fuO (G.2.1 (F a 10)) r1 (mw (G.2.1 (F a 1)) 0) p0.toInt) ∧ (r.toInt = ffP (G.2.1 (F a 10)) (mw (G.2.1 (F a 1)) 0) (pL u F a)) ∧ (0 ≤ ((u.1 a 19).toInt) ∧ ((u.1 a 19).toInt) ≤ 2388 ∧ r.toInt < ((u.1 a 19).toInt))) (fun u H => TW E K F u H)) 0 0 (xA E) := by
  refine x_enter (by decide) (Nat.le_of_ble_eq_true rfl) ?_
  intro p e s m args below meth c Q S hr hlk hnm hQ hP ls hl
  obtain ⟨hz, hK, hT⟩ := hP
  obtain ⟨hx, hb, -, -, -⟩ := id S
  obtain ⟨H, hT, hS, hgo⟩ : ∃ H : Heap, TW E K F G H ∧ va_S (xA E) s.heap H [] ∧ H = s.heap := ⟨_, hT, va_S.rf, rfl⟩
  rw [← hgo]
  have hl : lv_has ls 2 [(0, .ref a), (1, .int p0)] := hl
  obtain ⟨hk9999, hj9999⟩ := fkX11_15 hT ha
  obtain ⟨hk9999a, hj9999a⟩ := fkX11_17 hT ha
  obtain ⟨hk9999b, hj9999b⟩ := fkX11_18 hT ha
  obtain ⟨hk9999c, hj9999c⟩ := fkX11_10 hT ha
  obtain ⟨hk9999d, hj9999d⟩ := fkX11_1 hT ha
  obtain ⟨hk9999e, hj9999e⟩ := fkX11_12 hT ha
  obtain ⟨hk9999f, hj9999f⟩ := fkX11_11 hT ha
  refine lv_aload_n hx hb dX11_asks_0 rfl (lv_at hl 0 rfl) ?_
  refine lv_iload_n hx hb dX11_asks_1 rfl (lv_at hl 1 rfl) ?_
  refine lv_aload_n hx hb dX11_asks_2 rfl (lv_at hl 0 rfl) ?_
  refine gX11_12 S hK hT ha kf_X11_39 dX11_asks_3 (fun _ _ => ?_)
  refine lv_aload_n hx hb dX11_asks_6 rfl (lv_at hl 0 rfl) ?_
  refine gX11_11 S hK hT ha kf_X11_36 dX11_asks_7 (fun _ _ => ?_)
  refine x_cv0 (x_runV (b := a) (As := [.int p0, .ref (F a 12), .ref (F a 11)]) (rest := []) S (c_X11_findUnlike l E K F G a p0 (F a 12) (F a 11) r1 (mw (G.2.1 (F a 1)) 0) ha hk9999e hk9999f (v_X11_asks_10_1 (F := F) a G hR) (v_X11_asks_10_2 (F := F) a G r1 h1) (v_X11_asks_10_3 (F := F) a G h2)) mv_X11_findUnlike km_X11_214 rfl rfl ⟨Nat.le_of_ble_eq_true rfl, Nat.le_of_ble_eq_true rfl⟩ (rc_13 hK hT ha) hK (fun _ => XP.blind) (fun U hU hW => XP.at hK hz hS hT hU hW) rfl hl.1 (Nat.le_of_ble_eq_true rfl) dX11_asks_10 ⟨Nat.le_of_ble_eq_true rfl, Nat.le_of_ble_eq_true rfl⟩) hS ?_
  rintro G10 H locs ⟨hF10, t10, oq10, oq10a, oq10b⟩ hT hS
  have t10 : 0 ≤ ((G10.1 a 19).toInt) ∧ ((G10.1 a 19).toInt) ≤ 2388 := t10
  refine lv_aload_n hx hb dX11_asks_13 rfl (lv_at hl 0 rfl) ?_
  refine x_clp (x_runV (b := a) (As := []) (rest := []) S (c_X11_firstFailing l E K F G10 H a ha (z_X11_asks_1 ((G10.1 a 19).toInt) t10) (v_X11_asks_14_4 (F := F) a G G10 hR (hF10.2.1 _ (xn1 (xne_k hk9999c hk9999 (by decide)) (xn1 (xne_k hk9999c hk9999a (by decide)) (xn1 (xne_k hk9999c hk9999b (by decide)) xn0))))) (v_X11_asks_14_5 (F := F) a G G10 hM (hF10.2.1 _ (xn1 (xne_k hk9999d hk9999 (by decide)) (xn1 (xne_k hk9999d hk9999a (by decide)) (xn1 (xne_k hk9999d hk9999b (by decide)) xn0))))) (v_X11_asks_14_6 (F := F) a G G10 r1 p0 oq10 (hF10.2.1 _ (xn1 (xne_k hk9999c hk9999 (by decide)) (xn1 (xne_k hk9999c hk9999a (by decide)) (xn1 (xne_k hk9999c hk9999b (by decide)) xn0)))))) mv_X11_firstFailing km_X11_313 rfl rfl ⟨Nat.le_of_ble_eq_true rfl, Nat.le_of_ble_eq_true rfl⟩ (rc_13 hK hT ha) hK (fun _ => XPh.blind) (fun U hU hW => XPh.at hK hz hS hT hU hW) rfl hl.1 (Nat.le_of_ble_eq_true rfl) dX11_asks_14 ⟨Nat.le_of_ble_eq_true rfl, Nat.le_of_ble_eq_true rfl⟩) hS ?_
  rintro _ _ locs ⟨x14, rfl, t14, oq14⟩ hS
  have t14 : -1 ≤ x14.toInt ∧ x14.toInt < ((G10.1 a 19).toInt) := t14
  have oq14 : x14.toInt = ffP (G.2.1 (F a 10)) (mw (G.2.1 (F a 1)) 0) (pL G10 F a) := by simp only [(show G10.2.1 (F a 10) = G.2.1 (F a 10) from (hF10.2.1 _ (xn1 (xne_k hk9999c hk9999 (by decide)) (xn1 (xne_k hk9999c hk9999a (by decide)) (xn1 (xne_k hk9999c hk9999b (by decide)) xn0))))), (show G10.2.1 (F a 1) = G.2.1 (F a 1) from (hF10.2.1 _ (xn1 (xne_k hk9999d hk9999 (by decide)) (xn1 (xne_k hk9999d hk9999a (by decide)) (xn1 (xne_k hk9999d hk9999b (by decide)) xn0)))))] at oq14; exact oq14
  exact x_ri hx hb hr hlk hQ (Nat.le_of_ble_eq_true rfl) (Nat.le_of_ble_eq_true rfl) hS dX11_asks_17 G10 ⟨_, rfl, (XFr.call XFr.rf hF10 (xm1 0 rfl (xm1 1 rfl xm0)) (xm1 0 rfl (xm1 1 rfl (xm1 2 rfl xm0))) xm0), (z_X11_asks_2 x14.toInt ((G10.1 a 19).toInt) t14), (v_X11_asks_17_7 (F := F) a G G10 r1 p0 oq10), (v_X11_asks_17_8 (F := F) a G G10 x14 oq14), (v_X11_asks_17_9 (K := K) (F := F) a G G10 x14 ha oq10b oq14 t10 t14)⟩ hT

abbrev rm_X11_start : Room := { frames := 4, cells := 0, slots := 0, locals := 102 }
set_option maxHeartbeats 4000000 in
set_option maxRecDepth 100000 in
theorem c_X11_start (l : Launch) (E : XE) (K : Nat → Nat) (F : Nat → Nat → Nat) (G : XG) (a : Nat) (ha : K a = 13) (hR : RV (G.2.1 (F a 10))) (hM : RM (G.2.1 (F a 1)) (0)) : Met l yX11_start (xw yX11_start cX11_start 1 none) rm_X11_start (va_Pc [.ref a] (XP E K F G)) (XQv E (fun (u : XG) => XFr [] [F a 4, F a 12] [] G u ∧ (mw (u.2.1 (F a 4)) 0 = mw (G.2.1 (F a 1)) 0) ∧ (RM (u.2.1 (F a 4)) 0) ∧ (LSt (G.2.1 (F a 10)) (u.2.1 (F a 12)) (mw (G.2.1 (F a 1)) 0) 12)) (fun u H => TW E K F u H)) 0 0 (xA E) := by
  refine x_enter (by decide) (Nat.le_of_ble_eq_true rfl) ?_
  intro p e s m args below meth c Q S hr hlk hnm hQ hP ls hl
  obtain ⟨hz, hK, hT⟩ := hP
  obtain ⟨hx, hb, -, -, -⟩ := id S
  obtain ⟨H, hT, hS, hgo⟩ : ∃ H : Heap, TW E K F G H ∧ va_S (xA E) s.heap H [] ∧ H = s.heap := ⟨_, hT, va_S.rf, rfl⟩
  rw [← hgo]
  have hl : lv_has ls 1 [(0, .ref a)] := hl
  obtain ⟨hk9999, hj9999⟩ := fkX11_4 hT ha
  obtain ⟨hk9999a, hj9999a⟩ := fkX11_12 hT ha
  obtain ⟨hk9999b, hj9999b⟩ := fkX11_10 hT ha
  obtain ⟨hk9999c, hj9999c⟩ := fkX11_1 hT ha
  refine lv_aload_n hx hb dX11_start_0 rfl (lv_at hl 0 rfl) ?_
  refine gX11_1 S hK hT ha kf_X11_9 dX11_start_1 (fun _ _ => ?_)
  refine lv_iconst (v := 0) hx hb dX11_start_4 (by decide) ?_
  refine lv_aload_n hx hb dX11_start_5 rfl (lv_at hl 0 rfl) ?_
  refine gX11_4 S hK hT ha kf_X11_21 dX11_start_6 (fun _ _ => ?_)
  refine lv_iconst (v := 0) hx hb dX11_start_9 (by decide) ?_
  refine x_cv0 (x_runS (As := [.ref (F a 1), .int 0, .ref (F a 4), .int 0]) (rest := []) S (c_X11_copy l E K F G (F a 1) 0 (F a 4) 0 (XO.a hk9999c (by decide)) (XO.b hk9999 (by decide)) (v_X11_start_10_1 (K := K) (F := F) a G ha hk9999 hj9999 hk9999a hj9999a hk9999b hj9999b hk9999c hj9999c hR hM)) ms_X11_copy km_X11_309 rfl rfl ⟨Nat.le_of_ble_eq_true rfl, Nat.le_of_ble_eq_true rfl⟩ hK (fun _ => XP.blind) (fun U hU hW => XP.at hK hz hS hT hU hW) rfl hl.1 (Nat.le_of_ble_eq_true rfl) dX11_start_10 ⟨Nat.le_of_ble_eq_true rfl, Nat.le_of_ble_eq_true rfl⟩) hS ?_
  rintro G10 H locs ⟨hF10, oq10⟩ hT hS
  refine lv_aload_n hx hb dX11_start_13 rfl (lv_at hl 0 rfl) ?_
  refine lv_aload_n hx hb dX11_start_14 rfl (lv_at hl 0 rfl) ?_
  refine gX11_12 S hK hT ha kf_X11_39 dX11_start_15 (fun _ _ => ?_)
  refine lv_aload_n hx hb dX11_start_18 rfl (lv_at hl 0 rfl) ?_
  refine gX11_1 S hK hT ha kf_X11_9 dX11_start_19 (fun _ _ => ?_)
  refine lv_iconst (v := 0) hx hb dX11_start_22 (by decide) ?_
  refine x_cv0 (x_runV (b := a) (As := [.ref (F a 12), .ref (F a 1), .int 0]) (rest := []) S (c_X11_layStates l E K F G10 a (F a 12) (F a 1) 0 ha hk9999a (XO.a hk9999c (by decide)) (v_X11_start_23_2 (F := F) a G G10 hR (hF10.2.1 _ (xn1 (xne_k hk9999b hk9999 (by decide)) xn0))) (v_X11_start_23_3 (F := F) a G G10 hM (hF10.2.1 _ (xn1 (xne_k hk9999c hk9999 (by decide)) xn0)))) mv_X11_layStates km_X11_210 rfl rfl ⟨Nat.le_of_ble_eq_true rfl, Nat.le_of_ble_eq_true rfl⟩ (rc_13 hK hT ha) hK (fun _ => XP.blind) (fun U hU hW => XP.at hK hz hS hT hU hW) rfl hl.1 (Nat.le_of_ble_eq_true rfl) dX11_start_23 ⟨Nat.le_of_ble_eq_true rfl, Nat.le_of_ble_eq_true rfl⟩) hS ?_
  rintro G23 H locs ⟨hF23, oq23, oq23a⟩ hT hS
  have oq23 : LSt (G.2.1 (F a 10)) (G23.2.1 (F a 12)) (mw (G.2.1 (F a 1)) (0 : Int)) 12 := by simp only [(show G10.2.1 (F a 10) = G.2.1 (F a 10) from (hF10.2.1 _ (xn1 (xne_k hk9999b hk9999 (by decide)) xn0))), (show G10.2.1 (F a 1) = G.2.1 (F a 1) from (hF10.2.1 _ (xn1 (xne_k hk9999c hk9999 (by decide)) xn0)))] at oq23; exact oq23
  exact x_rv hx hb hr hlk hQ (Nat.le_of_ble_eq_true rfl) (Nat.le_of_ble_eq_true rfl) hS dX11_start_26 G23 ⟨(XFr.call (XFr.call XFr.rf hF10 xm0 (xm1 0 rfl xm0) xm0) hF23 xm0 (xm1 1 rfl xm0) xm0), (v_X11_start_26_4 (F := F) a G G10 G23 oq10 (hF23.2.1 _ (xn1 (xne_k hk9999 hk9999a (by decide)) xn0))), (v_X11_start_26_5 (F := F) a G G10 G23 hM oq10 (hF23.2.1 _ (xn1 (xne_k hk9999 hk9999a (by decide)) xn0))), (v_X11_start_26_6 (F := F) a G G23 oq23)⟩ hT

theorem z_X11_refuses_1 (a0 : Int) : a0 = a0 := by omega
abbrev rm_X11_refuses : Room := { frames := 0, cells := 0, slots := 0, locals := 0 }
set_option maxHeartbeats 4000000 in
set_option maxRecDepth 100000 in
theorem c_X11_refuses (l : Launch) (E : XE) (K : Nat → Nat) (F : Nat → Nat → Nat) (G : XG) (a : Nat) (p0 : Int32) (ha : K a = 13) : Met l yX11_refuses (xw yX11_refuses cX11_refuses 2 (some .int)) rm_X11_refuses (va_Pc [.ref a, .int p0] (XP E K F G)) (XQ E (fun v (u : XG) => ∃ r : Int32, v = .int r ∧ XFr [] [F a 8] [] G u ∧ (r.toInt = p0.toInt)) (fun u H => TW E K F u H)) 0 0 (xA E) := by
  refine x_enter (by decide) (Nat.le_of_ble_eq_true rfl) ?_
  intro p e s m args below meth c Q S hr hlk hnm hQ hP ls hl
  obtain ⟨hz, hK, hT⟩ := hP
  obtain ⟨hx, hb, -, -, -⟩ := id S
  obtain ⟨H, hT, hS, hgo⟩ : ∃ H : Heap, TW E K F G H ∧ va_S (xA E) s.heap H [] ∧ H = s.heap := ⟨_, hT, va_S.rf, rfl⟩
  rw [← hgo]
  have hl : lv_has ls 2 [(0, .ref a), (1, .int p0)] := hl
  obtain ⟨hk9999, hj9999⟩ := fkX11_8 hT ha
  refine lv_aload_n hx hb dX11_refuses_0 rfl (lv_at hl 0 rfl) ?_
  refine gX11_8 S hK hT ha kf_X11_27 dX11_refuses_1 (fun _ _ => ?_)
  refine lv_iconst (v := 5) hx hb dX11_refuses_4 (by decide) ?_
  refine lv_dup2_11 hx hb dX11_refuses_5 rfl rfl ?_
  refine al_0 S hK hT hk9999 ar_35 (by decide) (by decide) dX11_refuses_6 (fun x6 hv6 o6 => ?_)
  have hv6 : x6.toInt = (aI (G.2.1 (F a 8)) 5) := hv6.trans (by rw [((by decide) : Int32.toInt 5 = (5 : Int))])
  refine lv_aload_n hx hb dX11_refuses_7 rfl (lv_at hl 0 rfl) ?_
  refine gX11_6 S hK hT ha kf_X11_206 dX11_refuses_8 (v := (G.1 a 6)) rfl (fun hz8 => ?_)
  refine xi_zeq (tgt := 18) hx hb (rfl : Int32.toInt (G.1 a 6) = ((G.1 a 6).toInt)) dX11_refuses_11 (by decide) (fun c11 => ?_) (fun c11 => ?_)
  · refine lv_iconst (v := 0) hx hb dX11_refuses_18 (by decide) ?_
    refine xi_iadd hx hb (hv6 : Int32.toInt x6 = (aI (G.2.1 (F a 8)) 5)) ((by decide) : Int32.toInt 0 = (0 : Int)) dX11_refuses_19 (fun x19 t19 => ?_)
    refine as_0 (x := x19) S hK hT hS hk9999 ar_35 aw_35 (by decide) (by decide) dX11_refuses_20 (fun H locs hT hS => ?_)
    obtain ⟨G20, hG20⟩ : ∃ GG : XG, GG = cput G (F a 8) (5 : Int32).toNatClampNeg x19 := ⟨_, rfl⟩
    rw [← hG20] at hT
    refine lv_iload_n hx hb dX11_refuses_21 rfl (lv_at hl 1 rfl) ?_
    exact x_ri hx hb hr hlk hQ (Nat.le_of_ble_eq_true rfl) (Nat.le_of_ble_eq_true rfl) hS dX11_refuses_22 G20 ⟨_, rfl, (by rw [hG20]; exact XFr.cput XFr.rf (List.mem_of_getElem? (i := 0) rfl)), (z_X11_refuses_1 p0.toInt)⟩ hT
  · refine lv_iconst (v := 1) hx hb dX11_refuses_14 (by decide) ?_
    refine lv_goto (tgt := 19) hx hb dX11_refuses_15 (by decide) ?_
    refine xi_iadd hx hb (hv6 : Int32.toInt x6 = (aI (G.2.1 (F a 8)) 5)) ((by decide) : Int32.toInt 1 = (1 : Int)) dX11_refuses_19 (fun x19 t19 => ?_)
    refine as_0 (x := x19) S hK hT hS hk9999 ar_35 aw_35 (by decide) (by decide) dX11_refuses_20 (fun H locs hT hS => ?_)
    obtain ⟨G20, hG20⟩ : ∃ GG : XG, GG = cput G (F a 8) (5 : Int32).toNatClampNeg x19 := ⟨_, rfl⟩
    rw [← hG20] at hT
    refine lv_iload_n hx hb dX11_refuses_21 rfl (lv_at hl 1 rfl) ?_
    exact x_ri hx hb hr hlk hQ (Nat.le_of_ble_eq_true rfl) (Nat.le_of_ble_eq_true rfl) hS dX11_refuses_22 G20 ⟨_, rfl, (by rw [hG20]; exact XFr.cput XFr.rf (List.mem_of_getElem? (i := 0) rfl)), (z_X11_refuses_1 p0.toInt)⟩ hT

theorem z_X11_isMark_1 (a0 : Int) (a1 : Int) (a2 : Int) (h0 : a1 = 0) : (a1 ≠ 0 ∧ 0 ≤ a0 ∧ a0 ≤ a2 - 1 ∧ (0 : Int) = 1) ∨ (¬ (a1 ≠ 0 ∧ 0 ≤ a0 ∧ a0 ≤ a2 - 1) ∧ (0 : Int) = 0) := by omega
theorem z_X11_isMark_3 (a0 : Int) (a1 : Int) (a2 : Int) (a3 : Int) (h0 : (a1 = 1 ∧ (0 : Int) ≤ a0 ∧ a0 ≤ (a3 - (1 : Int))) ∨ (a1 = 0 ∧ (a0 < (0 : Int) ∨ (a3 - (1 : Int)) < a0))) (h1 : a1 = 0) : (a2 ≠ 0 ∧ 0 ≤ a0 ∧ a0 ≤ a3 - 1 ∧ (0 : Int) = 1) ∨ (¬ (a2 ≠ 0 ∧ 0 ≤ a0 ∧ a0 ≤ a3 - 1) ∧ (0 : Int) = 0) := by omega
theorem z_X11_isMark_4 (a0 : Int) (a1 : Int) (a2 : Int) (a3 : Int) (h0 : ¬ (a2 = 0)) (h1 : (a1 = 1 ∧ (0 : Int) ≤ a0 ∧ a0 ≤ (a3 - (1 : Int))) ∨ (a1 = 0 ∧ (a0 < (0 : Int) ∨ (a3 - (1 : Int)) < a0))) (h2 : ¬ (a1 = 0)) : (a2 ≠ 0 ∧ 0 ≤ a0 ∧ a0 ≤ a3 - 1 ∧ (1 : Int) = 1) ∨ (¬ (a2 ≠ 0 ∧ 0 ≤ a0 ∧ a0 ≤ a3 - 1) ∧ (1 : Int) = 0) := by omega
abbrev rm_X11_isMark : Room := { frames := 1, cells := 0, slots := 0, locals := 25 }
set_option maxHeartbeats 4000000 in
set_option maxRecDepth 100000 in
theorem c_X11_isMark (l : Launch) (E : XE) (K : Nat → Nat) (F : Nat → Nat → Nat) (G : XG) (h0 : Heap) (a : Nat) (p0 : Int32) (ha : K a = 13) : Met l yX11_isMark (xw yX11_isMark cX11_isMark 2 (some .boolean)) rm_X11_isMark (va_Pc [.ref a, .int p0] (XPh E K F G h0)) (XQ E (fun v (u : Unit) => ∃ r : Int32, v = .int r ∧ (r = 0 ∨ r = 1) ∧ ((((G.1 a 6).toInt) ≠ 0 ∧ 0 ≤ p0.toInt ∧ p0.toInt ≤ ((G.1 a 7).toInt) - 1 ∧ r.toInt = 1) ∨ (¬ (((G.1 a 6).toInt) ≠ 0 ∧ 0 ≤ p0.toInt ∧ p0.toInt ≤ ((G.1 a 7).toInt) - 1) ∧ r.toInt = 0))) (fun _ H => H = h0)) 0 0 (xA E) := by
  refine x_enter (by decide) (Nat.le_of_ble_eq_true rfl) ?_
  intro p e s m args below meth c Q S hr hlk hnm hQ hP ls hl
  obtain ⟨⟨hz, hK, hT⟩, hh⟩ := hP
  obtain ⟨hx, hb, -, -, -⟩ := id S
  have hS : va_S (xA E) s.heap s.heap [] := va_S.rf
  have hl : lv_has ls 2 [(0, .ref a), (1, .int p0)] := hl
  refine lv_aload_n hx hb dX11_isMark_0 rfl (lv_at hl 0 rfl) ?_
  refine gX11_6 S hK hT ha kf_X11_206 dX11_isMark_1 (v := (G.1 a 6)) rfl (fun hz1 => ?_)
  refine xi_zeq (tgt := 27) hx hb (rfl : Int32.toInt (G.1 a 6) = ((G.1 a 6).toInt)) dX11_isMark_4 (by decide) (fun c4 => ?_) (fun c4 => ?_)
  · refine lv_iconst (v := 0) hx hb dX11_isMark_27 (by decide) ?_
    exact x_rz hx hb hr (xnz (Or.inl rfl)) hlk hQ (Nat.le_of_ble_eq_true rfl) (Nat.le_of_ble_eq_true rfl) hS dX11_isMark_28 () ⟨_, rfl, (Or.inl rfl), (z_X11_isMark_1 p0.toInt ((G.1 a 6).toInt) ((G.1 a 7).toInt) c4)⟩ hh
  · refine lv_iload_n hx hb dX11_isMark_7 rfl (lv_at hl 1 rfl) ?_
    refine lv_i2l (v := p0.toInt64) hx hb dX11_isMark_8 rfl ?_
    refine lv_lconst (v := (0 : Int64)) hx hb dX11_isMark_9 (by decide) ?_
    refine lv_aload_n hx hb dX11_isMark_10 rfl (lv_at hl 0 rfl) ?_
    refine gX11_7 S hK hT ha kf_X11_373 dX11_isMark_11 (v := (G.1 a 7)) rfl (?_)
    refine lv_i2l (v := ((G.1 a 7) : Int32).toInt64) hx hb dX11_isMark_14 rfl ?_
    refine lv_lconst (v := (1 : Int64)) hx hb dX11_isMark_15 (by decide) ?_
    refine lv_lsub hx hb dX11_isMark_16 (lv_topl (fun y16 hy16 => ?_))
    have hy16 : y16.toInt = ((G.1 a 7).toInt) - (1 : Int) := xl_sub (xl_i2l (rfl : Int32.toInt (G.1 a 7) = ((G.1 a 7).toInt))) (by decide) ((xr (G.1 a 7))) (by decide) hy16
    refine x_clp (x_runS (As := [.long p0.toInt64, .long (0 : Int64), .long y16]) (rest := []) S (c_X11_in l E K F G s.heap p0.toInt64 p0.toInt (0 : Int64) (0 : Int) y16 (((G.1 a 7).toInt) - (1 : Int)) (xl_i2l (rfl : Int32.toInt p0 = p0.toInt)) (by decide) hy16) ms_X11_in km_X11_139 rfl rfl ⟨Nat.le_of_ble_eq_true rfl, Nat.le_of_ble_eq_true rfl⟩ hK (fun _ => XPh.blind) (fun U hU hW => XPh.at hK hz hS hT hU hW) rfl hl.1 (Nat.le_of_ble_eq_true rfl) dX11_isMark_17 ⟨Nat.le_of_ble_eq_true rfl, Nat.le_of_ble_eq_true rfl⟩) hS ?_
    rintro _ _ locs ⟨x17, rfl, b17, t17⟩ hS
    have t17 : (x17.toInt = 1 ∧ (0 : Int) ≤ p0.toInt ∧ p0.toInt ≤ (((G.1 a 7).toInt) - (1 : Int))) ∨ (x17.toInt = 0 ∧ (p0.toInt < (0 : Int) ∨ (((G.1 a 7).toInt) - (1 : Int)) < p0.toInt)) := t17
    refine xi_zeq (tgt := 27) hx hb (rfl : Int32.toInt x17 = x17.toInt) dX11_isMark_20 (by decide) (fun c20 => ?_) (fun c20 => ?_)
    · refine lv_iconst (v := 0) hx hb dX11_isMark_27 (by decide) ?_
      exact x_rz hx hb hr (xnz (Or.inl rfl)) hlk hQ (Nat.le_of_ble_eq_true rfl) (Nat.le_of_ble_eq_true rfl) hS dX11_isMark_28 () ⟨_, rfl, (Or.inl rfl), (z_X11_isMark_3 p0.toInt x17.toInt ((G.1 a 6).toInt) ((G.1 a 7).toInt) t17 c20)⟩ hh
    · refine lv_iconst (v := 1) hx hb dX11_isMark_23 (by decide) ?_
      refine lv_goto (tgt := 28) hx hb dX11_isMark_24 (by decide) ?_
      exact x_rz hx hb hr (xnz (Or.inr rfl)) hlk hQ (Nat.le_of_ble_eq_true rfl) (Nat.le_of_ble_eq_true rfl) hS dX11_isMark_28 () ⟨_, rfl, (Or.inr rfl), (z_X11_isMark_4 p0.toInt x17.toInt ((G.1 a 6).toInt) ((G.1 a 7).toInt) c4 t17 c20)⟩ hh

abbrev rm_X11_nothing : Room := { frames := 0, cells := 0, slots := 0, locals := 0 }
set_option maxHeartbeats 4000000 in
set_option maxRecDepth 100000 in
theorem c_X11_nothing (l : Launch) (E : XE) (K : Nat → Nat) (F : Nat → Nat → Nat) (G : XG) (a : Nat) (ha : K a = 13) : Met l yX11_nothing (xw yX11_nothing cX11_nothing 1 none) rm_X11_nothing (va_Pc [.ref a] (XP E K F G)) (XQv E (fun (u : XG) => XFr [(a, 20), (a, 21), (a, 23)] [] [] G u ∧ (((u.1 a 20).toInt) = -2147483648 ∧ ((u.1 a 21).toInt) = -2147483648 ∧ ((u.1 a 23).toInt) = 0)) (fun u H => TW E K F u H)) 0 0 (xA E) := by
  refine x_enter (by decide) (Nat.le_of_ble_eq_true rfl) ?_
  intro p e s m args below meth c Q S hr hlk hnm hQ hP ls hl
  obtain ⟨hz, hK, hT⟩ := hP
  obtain ⟨hx, hb, -, -, -⟩ := id S
  obtain ⟨H, hT, hS, hgo⟩ : ∃ H : Heap, TW E K F G H ∧ va_S (xA E) s.heap H [] ∧ H = s.heap := ⟨_, hT, va_S.rf, rfl⟩
  rw [← hgo]
  have hl : lv_has ls 1 [(0, .ref a)] := hl
  refine lv_aload_n hx hb dX11_nothing_0 rfl (lv_at hl 0 rfl) ?_
  refine lv_ldc (v := (-2147483648)) hx hb S.2.2.2.1 (S.2.2.2.2 _ (List.mem_cons_of_mem _ kc_X11_57)) dX11_nothing_1 ?_
  refine pX11_20 (v := (-2147483648)) S hK hT hS ha kf_X11_58 dX11_nothing_3 (fun H locs hT hS => ?_)
  obtain ⟨G3, hG3⟩ : ∃ GG : XG, GG = dput G a 20 (-2147483648) := ⟨_, rfl⟩
  rw [← hG3] at hT
  refine lv_aload_n hx hb dX11_nothing_6 rfl (lv_at hl 0 rfl) ?_
  refine lv_ldc (v := (-2147483648)) hx hb S.2.2.2.1 (S.2.2.2.2 _ (List.mem_cons_of_mem _ kc_X11_57)) dX11_nothing_7 ?_
  refine pX11_21 (v := (-2147483648)) S hK hT hS ha kf_X11_62 dX11_nothing_9 (fun H locs hT hS => ?_)
  obtain ⟨G9, hG9⟩ : ∃ GG : XG, GG = dput G3 a 21 (-2147483648) := ⟨_, rfl⟩
  rw [← hG9] at hT
  refine lv_aload_n hx hb dX11_nothing_12 rfl (lv_at hl 0 rfl) ?_
  refine lv_iconst (v := 0) hx hb dX11_nothing_13 (by decide) ?_
  refine pX11_23 (v := 0) S hK hT hS ha kf_X11_224 dX11_nothing_14 (fun H locs hT hS => ?_)
  obtain ⟨G14, hG14⟩ : ∃ GG : XG, GG = dput G9 a 23 0 := ⟨_, rfl⟩
  rw [← hG14] at hT
  exact x_rv hx hb hr hlk hQ (Nat.le_of_ble_eq_true rfl) (Nat.le_of_ble_eq_true rfl) hS dX11_nothing_17 G14 ⟨(by rw [hG14]; exact XFr.dput (by rw [hG9]; exact XFr.dput (by rw [hG3]; exact XFr.dput XFr.rf (List.mem_of_getElem? (i := 0) rfl)) (List.mem_of_getElem? (i := 1) rfl)) (List.mem_of_getElem? (i := 2) rfl)), (by rw [(show (G14.1 a 20).toInt = (-2147483648 : Int) from (congrArg Int32.toInt ((ld_j hG14 (by decide)).trans ((ld_j hG9 (by decide)).trans (ld_at hG3)))).trans ((by decide) : Int32.toInt (-2147483648) = (-2147483648 : Int))), (show (G14.1 a 21).toInt = (-2147483648 : Int) from (congrArg Int32.toInt ((ld_j hG14 (by decide)).trans (ld_at hG9))).trans ((by decide) : Int32.toInt (-2147483648) = (-2147483648 : Int))), (show (G14.1 a 23).toInt = (0 : Int) from (congrArg Int32.toInt (ld_at hG14)).trans ((by decide) : Int32.toInt 0 = (0 : Int)))] <;> exact (by decide))⟩ hT

