theorem z_X11_findQueue_1 (a0 : Nat) : 0 ≤ (0 : Int) ∧ (0 : Int) ≤ 2388 ∧ (0 : Int) ≤ ((a0 : Nat) : Int) := by omega
theorem z_X11_findQueue_2 (a0 : Int) (a1 : Nat) (h0 : 0 ≤ a0 ∧ a0 ≤ 2388 ∧ a0 ≤ ((a1 : Nat) : Int)) (r0 : -2147483648 ≤ a0 ∧ a0 < 2147483648) : 0 ≤ a0 ∧ a0 ≤ 2388 ∧ a0 ≤ ((a1 : Nat) : Int) := by omega
abbrev rm_X11_findQueue : Room := { frames := 4, cells := 0, slots := 0, locals := 102 }
set_option maxHeartbeats 4000000 in
set_option maxRecDepth 100000 in
theorem c_X11_findQueue (l : Launch) (E : XE) (K : Nat → Nat) (F : Nat → Nat → Nat) (tl z0 z1 z2 z3 z4 z5 z6 z7 z8 z9 z10 z11 z12 z13 z14 z15 z16 z17 z18 z19 z20 : Int32) (ar0 ar1 ar2 ar3 ar4 ar5 ar6 ar7 ar8 ar9 ar10 : Nat → Int32) (a : Nat) (ha : K a = 13) (hR : RV ar1) : Met l yX11_findQueue (xw yX11_findQueue cX11_findQueue 1 none) rm_X11_findQueue (va_Pc [.ref a] (XP E K F (tl, [z0, z1, z2, z3, z4, z5, z6, z7, z8, z9, z10, z11, z12, z13, z14, z15, z16, z17, z18, z19, z20], [ar0, ar1, ar2, ar3, ar4, ar5, ar6, ar7, ar8, ar9, ar10]))) (XQv E (fun (u : Int32 × Int32 × (Nat → Int32) × (Nat → Int32) × (Nat → Int32)) => (0 ≤ u.2.1.toInt ∧ u.2.1.toInt ≤ 2388 ∧ u.2.1.toInt ≤ (((fV ar1 u.2.2.2.1 u.2.2.2.2) : Nat) : Int))) (fun u H => TW E K F (tl, [z0, z1, z2, u.1, u.2.1, z5, z6, z7, z8, z9, z10, z11, z12, z13, z14, z15, z16, z17, z18, z19, z20], [ar0, ar1, u.2.2.1, u.2.2.2.1, u.2.2.2.2, ar5, ar6, ar7, ar8, ar9, ar10]) [] H)) 0 0 (xA E) := by
  refine x_enter (by decide) (Nat.le_of_ble_eq_true rfl) ?_
  intro p e s m args below meth c Q S hr hlk hnm hQ hP ls hl
  obtain ⟨hz, hK, hT⟩ := hP
  obtain ⟨hx, hb, -, -, -⟩ := id S
  obtain ⟨H, hT, hS, hgo⟩ : ∃ H : Heap, TW E K F (tl, [z0, z1, z2, z3, z4, z5, z6, z7, z8, z9, z10, z11, z12, z13, z14, z15, z16, z17, z18, z19, z20], [ar0, ar1, ar2, ar3, ar4, ar5, ar6, ar7, ar8, ar9, ar10]) [] H ∧ va_S (xA E) s.heap H [] ∧ H = s.heap := ⟨_, hT, va_S.rf, rfl⟩
  rw [← hgo]
  have hl : lv_has ls 1 [(0, .ref a)] := hl
  refine lv_aload_n hx hb dX11_findQueue_0 rfl (lv_at hl 0 rfl) ?_
  refine lv_iconst (v := 0) hx hb dX11_findQueue_1 (by decide) ?_
  refine pX11_19 (kq := []) (v := 0) S hK hT hS ha kf_X11_203 (Nat.le_of_ble_eq_true rfl) dX11_findQueue_2 (fun _ h => by cases h) (fun H locs hT hS => ?_)
  have hT : TW E K F (tl, [z0, z1, z2, z3, 0, z5, z6, z7, z8, z9, z10, z11, z12, z13, z14, z15, z16, z17, z18, z19, z20], [ar0, ar1, ar2, ar3, ar4, ar5, ar6, ar7, ar8, ar9, ar10]) [] H := hT
  refine lv_aload_n hx hb dX11_findQueue_5 rfl (lv_at hl 0 rfl) ?_
  refine gX11_6 S hK hT ha kf_X11_206 dX11_findQueue_6 (v := z1) rfl ?_
  refine xi_zeq (tgt := 51) hx hb (rfl : Int32.toInt z1 = z1.toInt) dX11_findQueue_9 (by decide) (fun c1 => ?_) (fun c1 => ?_)
  · exact x_rv hx hb hr hlk hQ (Nat.le_of_ble_eq_true rfl) (Nat.le_of_ble_eq_true rfl) hS dX11_findQueue_51 (z3, 0, ar2, ar3, ar4) (z_X11_findQueue_1 (fV ar1 ar3 ar4)) hT.nil
  · refine lv_aload_n hx hb dX11_findQueue_12 rfl (lv_at hl 0 rfl) ?_
    refine lv_aload_n hx hb dX11_findQueue_13 rfl (lv_at hl 0 rfl) ?_
    refine gX11_11 S hK hT ha kf_X11_36 dX11_findQueue_14 (fun hk2 => ?_)
    refine lv_aload_n hx hb dX11_findQueue_17 rfl (lv_at hl 0 rfl) ?_
    refine gX11_1 S hK hT ha kf_X11_9 dX11_findQueue_18 (fun hk3 => ?_)
    refine lv_iconst (v := 0) hx hb dX11_findQueue_21 (by decide) ?_
    refine x_cv0 (x_runV (b := a) (As := [.ref (F a 11), .ref (F a 1), .int 0]) (rest := []) S (c_X11_layStates l E K F tl z0 z1 z2 z3 0 z5 z6 z7 z8 z9 z10 z11 z12 z13 z14 z15 z16 z17 z18 z19 z20 ar0 ar1 ar2 ar3 ar4 ar5 ar6 ar7 ar8 ar9 ar10 a (F a 11) (F a 1) 0 ha hk2 (XO.a hk3 (by decide)) hR) mv_X11_layStates km_X11_210 rfl rfl ⟨Nat.le_of_ble_eq_true rfl, Nat.le_of_ble_eq_true rfl⟩ (rc_13 hK hT ha) hK (fun _ => XP.blind) (fun U hU hW => XP.at hK hz hS hT hU hW) rfl hl.1 (Nat.le_of_ble_eq_true rfl) dX11_findQueue_22 ⟨Nat.le_of_ble_eq_true rfl, Nat.le_of_ble_eq_true rfl⟩) hS ?_
    rintro _ H locs - hT hS
    refine lv_aload_n hx hb dX11_findQueue_25 rfl (lv_at hl 0 rfl) ?_
    refine lv_aload_n hx hb dX11_findQueue_26 rfl (lv_at hl 0 rfl) ?_
    refine gX11_13 S hK hT ha kf_X11_42 dX11_findQueue_27 (fun hk6 => ?_)
    refine lv_aload_n hx hb dX11_findQueue_30 rfl (lv_at hl 0 rfl) ?_
    refine gX11_2 S hK hT ha kf_X11_15 dX11_findQueue_31 (fun hk7 => ?_)
    refine lv_iconst (v := 0) hx hb dX11_findQueue_34 (by decide) ?_
    refine x_cv0 (x_runV (b := a) (As := [.ref (F a 13), .ref (F a 2), .int 0]) (rest := []) S (c_X11_layStates l E K F tl z0 z1 z2 z3 0 z5 z6 z7 z8 z9 z10 z11 z12 z13 z14 z15 z16 z17 z18 z19 z20 ar0 ar1 ar2 ar3 ar4 ar5 ar6 ar7 ar8 ar9 ar10 a (F a 13) (F a 2) 0 ha hk6 (XO.b hk7 (by decide)) hR) mv_X11_layStates km_X11_210 rfl rfl ⟨Nat.le_of_ble_eq_true rfl, Nat.le_of_ble_eq_true rfl⟩ (rc_13 hK hT ha) hK (fun _ => XP.blind) (fun U hU hW => XP.at hK hz hS hT hU hW) rfl hl.1 (Nat.le_of_ble_eq_true rfl) dX11_findQueue_35 ⟨Nat.le_of_ble_eq_true rfl, Nat.le_of_ble_eq_true rfl⟩) hS ?_
    rintro _ H locs - hT hS
    refine lv_aload_n hx hb dX11_findQueue_38 rfl (lv_at hl 0 rfl) ?_
    refine lv_iconst (v := 1) hx hb dX11_findQueue_39 (by decide) ?_
    refine lv_aload_n hx hb dX11_findQueue_40 rfl (lv_at hl 0 rfl) ?_
    refine gX11_11 S hK hT ha kf_X11_36 dX11_findQueue_41 (fun hk10 => ?_)
    refine lv_aload_n hx hb dX11_findQueue_44 rfl (lv_at hl 0 rfl) ?_
    refine gX11_13 S hK hT ha kf_X11_42 dX11_findQueue_45 (fun hk11 => ?_)
    refine x_cv0 (x_runV (b := a) (As := [.int 1, .ref (F a 11), .ref (F a 13)]) (rest := []) S (c_X11_findUnlike l E K F tl z0 z1 z2 z3 0 z5 z6 z7 z8 z9 z10 z11 z12 z13 z14 z15 z16 z17 z18 z19 z20 ar0 ar1 ar2 ar3 ar4 ar5 ar6 ar7 ar8 ar9 ar10 a 1 (F a 11) (F a 13) ha hk10 hk11 hR) mv_X11_findUnlike km_X11_214 rfl rfl ⟨Nat.le_of_ble_eq_true rfl, Nat.le_of_ble_eq_true rfl⟩ (rc_13 hK hT ha) hK (fun _ => XP.blind) (fun U hU hW => XP.at hK hz hS hT hU hW) rfl hl.1 (Nat.le_of_ble_eq_true rfl) dX11_findQueue_48 ⟨Nat.le_of_ble_eq_true rfl, Nat.le_of_ble_eq_true rfl⟩) hS ?_
    rintro ⟨u12, u13, f14, f15, f16⟩ H locs t17 hT hS
    have hT : TW E K F (tl, [z0, z1, z2, u12, u13, z5, z6, z7, z8, z9, z10, z11, z12, z13, z14, z15, z16, z17, z18, z19, z20], [ar0, ar1, f14, f15, f16, ar5, ar6, ar7, ar8, ar9, ar10]) [] H := hT
    have t17 : 0 ≤ u13.toInt ∧ u13.toInt ≤ 2388 ∧ u13.toInt ≤ (((fV ar1 f15 f16) : Nat) : Int) := t17
    exact x_rv hx hb hr hlk hQ (Nat.le_of_ble_eq_true rfl) (Nat.le_of_ble_eq_true rfl) hS dX11_findQueue_51 (u12, u13, f14, f15, f16) (z_X11_findQueue_2 u13.toInt (fV ar1 f15 f16) t17 (xr u13)) hT.nil

theorem z_X11_queueMany_1 (a0 : Int) (a1 : Nat) (h0 : 0 ≤ a0 ∧ a0 ≤ 2388 ∧ a0 ≤ ((a1 : Nat) : Int)) (r0 : -2147483648 ≤ a0 ∧ a0 < 2147483648) : 0 ≤ a0 ∧ a0 ≤ 2388 ∧ a0 ≤ ((a1 : Nat) : Int) := by omega
abbrev rm_X11_queueMany : Room := { frames := 5, cells := 0, slots := 0, locals := 122 }
set_option maxHeartbeats 4000000 in
set_option maxRecDepth 100000 in
theorem c_X11_queueMany (l : Launch) (E : XE) (K : Nat → Nat) (F : Nat → Nat → Nat) (tl z0 z1 z2 z3 z4 z5 z6 z7 z8 z9 z10 z11 z12 z13 z14 z15 z16 z17 z18 z19 z20 : Int32) (ar0 ar1 ar2 ar3 ar4 ar5 ar6 ar7 ar8 ar9 ar10 : Nat → Int32) (a : Nat) (ha : K a = 13) (hR : RV ar1) : Met l yX11_queueMany (xw yX11_queueMany cX11_queueMany 1 (some .int)) rm_X11_queueMany (va_Pc [.ref a] (XP E K F (tl, [z0, z1, z2, z3, z4, z5, z6, z7, z8, z9, z10, z11, z12, z13, z14, z15, z16, z17, z18, z19, z20], [ar0, ar1, ar2, ar3, ar4, ar5, ar6, ar7, ar8, ar9, ar10]))) (XQ E (fun v (u : Int32 × Int32 × (Nat → Int32) × (Nat → Int32) × (Nat → Int32)) => ∃ r : Int32, v = .int r ∧ (0 ≤ u.2.1.toInt ∧ u.2.1.toInt ≤ 2388 ∧ u.2.1.toInt ≤ (((fV ar1 u.2.2.2.1 u.2.2.2.2) : Nat) : Int))) (fun u H => TW E K F (tl, [z0, z1, z2, u.1, u.2.1, z5, z6, z7, z8, z9, z10, z11, z12, z13, z14, z15, z16, z17, z18, z19, z20], [ar0, ar1, u.2.2.1, u.2.2.2.1, u.2.2.2.2, ar5, ar6, ar7, ar8, ar9, ar10]) [] H)) 0 0 (xA E) := by
  refine x_enter (by decide) (Nat.le_of_ble_eq_true rfl) ?_
  intro p e s m args below meth c Q S hr hlk hnm hQ hP ls hl
  obtain ⟨hz, hK, hT⟩ := hP
  obtain ⟨hx, hb, -, -, -⟩ := id S
  obtain ⟨H, hT, hS, hgo⟩ : ∃ H : Heap, TW E K F (tl, [z0, z1, z2, z3, z4, z5, z6, z7, z8, z9, z10, z11, z12, z13, z14, z15, z16, z17, z18, z19, z20], [ar0, ar1, ar2, ar3, ar4, ar5, ar6, ar7, ar8, ar9, ar10]) [] H ∧ va_S (xA E) s.heap H [] ∧ H = s.heap := ⟨_, hT, va_S.rf, rfl⟩
  rw [← hgo]
  have hl : lv_has ls 1 [(0, .ref a)] := hl
  refine lv_aload_n hx hb dX11_queueMany_0 rfl (lv_at hl 0 rfl) ?_
  refine x_cv0 (x_runV (b := a) (As := []) (rest := []) S (c_X11_findQueue l E K F tl z0 z1 z2 z3 z4 z5 z6 z7 z8 z9 z10 z11 z12 z13 z14 z15 z16 z17 z18 z19 z20 ar0 ar1 ar2 ar3 ar4 ar5 ar6 ar7 ar8 ar9 ar10 a ha hR) mv_X11_findQueue km_X11_218 rfl rfl ⟨Nat.le_of_ble_eq_true rfl, Nat.le_of_ble_eq_true rfl⟩ (rc_13 hK hT ha) hK (fun _ => XP.blind) (fun U hU hW => XP.at hK hz hS hT hU hW) rfl hl.1 (Nat.le_of_ble_eq_true rfl) dX11_queueMany_1 ⟨Nat.le_of_ble_eq_true rfl, Nat.le_of_ble_eq_true rfl⟩) hS ?_
  rintro ⟨u1, u2, f3, f4, f5⟩ H locs t6 hT hS
  have hT : TW E K F (tl, [z0, z1, z2, u1, u2, z5, z6, z7, z8, z9, z10, z11, z12, z13, z14, z15, z16, z17, z18, z19, z20], [ar0, ar1, f3, f4, f5, ar5, ar6, ar7, ar8, ar9, ar10]) [] H := hT
  have t6 : 0 ≤ u2.toInt ∧ u2.toInt ≤ 2388 ∧ u2.toInt ≤ (((fV ar1 f4 f5) : Nat) : Int) := t6
  refine lv_aload_n hx hb dX11_queueMany_4 rfl (lv_at hl 0 rfl) ?_
  refine gX11_19 S hK hT ha kf_X11_203 dX11_queueMany_5 (v := u2) rfl ?_
  exact x_ri hx hb hr hlk hQ (Nat.le_of_ble_eq_true rfl) (Nat.le_of_ble_eq_true rfl) hS dX11_queueMany_8 (u1, u2, f3, f4, f5) ⟨_, rfl, (z_X11_queueMany_1 u2.toInt (fV ar1 f4 f5) t6 (xr u2))⟩ hT.nil

theorem z_X11_firstFailing_1 (a0 : Int) (h0 : (0 : Int) ≤ a0) (r0 : -2147483648 ≤ a0 ∧ a0 < 2147483648) : ¬ (2147483648 - a0 < ((0 : Nat) : Int)) := by omega
theorem z_X11_firstFailing_2 (a0 : Int) (a1 : Int) (a2 : Nat) (a3 : Nat) (h0 : 0 ≤ a1 ∧ a1 ≤ 2388 ∧ a1 ≤ ((a3 : Nat) : Int)) (h1 : (0 : Int) ≤ a0) (h2 : 2147483648 - a0 < ((a2 + 1 : Nat) : Int)) (h3 : a1 ≤ a0) (r0 : -2147483648 ≤ a0 ∧ a0 < 2147483648) (r1 : -2147483648 ≤ a1 ∧ a1 < 2147483648) : (-1 : Int) = -1 ∨ (0 ≤ (-1 : Int) ∧ (-1 : Int) < a1) := by omega
theorem z_X11_firstFailing_3 (a0 : Int) (a1 : Int) (a2 : Nat) (a3 : Nat) (h0 : 0 ≤ a1 ∧ a1 ≤ 2388 ∧ a1 ≤ ((a3 : Nat) : Int)) (h1 : (0 : Int) ≤ a0) (h2 : 2147483648 - a0 < ((a2 + 1 : Nat) : Int)) (h3 : ¬ (a1 ≤ a0)) (r0 : -2147483648 ≤ a0 ∧ a0 < 2147483648) (r1 : -2147483648 ≤ a1 ∧ a1 < 2147483648) : 0 ≤ a0 ∧ a0 < ((2400 : Nat) : Int) := by omega
theorem z_X11_firstFailing_4 (a0 : Int) (a1 : Int) (a2 : Nat) (a3 : Nat) (h0 : 0 ≤ a1 ∧ a1 ≤ 2388 ∧ a1 ≤ ((a3 : Nat) : Int)) (h1 : (0 : Int) ≤ a0) (h2 : 2147483648 - a0 < ((a2 + 1 : Nat) : Int)) (h3 : ¬ (a1 ≤ a0)) (r0 : -2147483648 ≤ a0 ∧ a0 < 2147483648) (r1 : -2147483648 ≤ a1 ∧ a1 < 2147483648) : 0 ≤ a0 ∧ a0 < ((a3 : Nat) : Int) := by omega
theorem z_X11_firstFailing_5 (a0 : Int) (a1 : Int) (a2 : Int) (h0 : a0 = a2) (h1 : 0 ≤ a0 ∧ a0 ≤ 11 ∧ 0 ≤ a1) (r0 : -2147483648 ≤ a0 ∧ a0 < 2147483648) : 0 ≤ a0 ∧ a0 ≤ 11 := by omega
theorem z_X11_firstFailing_6 (a0 : Int) (a1 : Int) (a2 : Nat) (a3 : Nat) (h0 : 0 ≤ a1 ∧ a1 ≤ 2388 ∧ a1 ≤ ((a3 : Nat) : Int)) (h1 : (0 : Int) ≤ a0) (h2 : 2147483648 - a0 < ((a2 + 1 : Nat) : Int)) (h3 : ¬ (a1 ≤ a0)) (r0 : -2147483648 ≤ a0 ∧ a0 < 2147483648) (r1 : -2147483648 ≤ a1 ∧ a1 < 2147483648) : 0 ≤ a0 ∧ a0 < ((2400 : Nat) : Int) := by omega
theorem z_X11_firstFailing_7 (a0 : Int) (a1 : Int) (a2 : Nat) (a3 : Nat) (h0 : 0 ≤ a1 ∧ a1 ≤ 2388 ∧ a1 ≤ ((a3 : Nat) : Int)) (h1 : (0 : Int) ≤ a0) (h2 : 2147483648 - a0 < ((a2 + 1 : Nat) : Int)) (h3 : ¬ (a1 ≤ a0)) (r0 : -2147483648 ≤ a0 ∧ a0 < 2147483648) (r1 : -2147483648 ≤ a1 ∧ a1 < 2147483648) : 0 ≤ a0 ∧ a0 < ((a3 : Nat) : Int) := by omega
theorem z_X11_firstFailing_8 (a0 : Int) (a1 : Int) (a2 : Int) (a3 : Int) (h0 : a0 = a3) (h1 : 0 ≤ a0 ∧ a0 ≤ 11 ∧ 0 ≤ a1) (h2 : -1 ≤ a1 ∧ a1 ≤ 5) (h3 : -1 ≤ a2 ∧ a2 ≤ 2) (h4 : a1 = 1 ∨ a1 = 3 ∨ a1 = 4 → 0 ≤ a2) (r0 : -2147483648 ≤ a0 ∧ a0 < 2147483648) : 0 ≤ a0 ∧ a0 ≤ 11 := by first | (clear h4; omega) | omega
theorem z_X11_firstFailing_9 (a0 : Int) (a1 : Int) (a2 : Int) (a3 : Int) (h0 : a0 = a3) (h1 : 0 ≤ a0 ∧ a0 ≤ 11 ∧ 0 ≤ a1) (h2 : -1 ≤ a1 ∧ a1 ≤ 5) (h3 : -1 ≤ a2 ∧ a2 ≤ 2) (h4 : a1 = 1 ∨ a1 = 3 ∨ a1 = 4 → 0 ≤ a2) (r0 : -2147483648 ≤ a0 ∧ a0 < 2147483648) : 0 ≤ a1 := by omega
theorem z_X11_firstFailing_10 (a0 : Int) (a1 : Int) (a2 : Int) (a3 : Int) (h0 : a0 = a2) (h1 : -99 ≤ a0 ∧ a0 ≤ 99 ∧ a1 ≤ a0 ∧ a0 ≤ a3) (r0 : -2147483648 ≤ a0 ∧ a0 < 2147483648) : a1 ≤ a0 ∧ a0 ≤ a3 := by omega
theorem z_X11_firstFailing_11 (a0 : Int) (a1 : Int) (a2 : Int) (a3 : Nat) (a4 : Nat) (h0 : 0 ≤ a2 ∧ a2 ≤ 2388 ∧ a2 ≤ ((a4 : Nat) : Int)) (h1 : (0 : Int) ≤ a0) (h2 : 2147483648 - a0 < ((a3 + 1 : Nat) : Int)) (h3 : ¬ (a2 ≤ a0)) (h4 : a1 = a0 + 1 ∨ a0 + 1 < -2147483648 ∨ 2147483648 ≤ a0 + 1) (r0 : -2147483648 ≤ a0 ∧ a0 < 2147483648) (r1 : -2147483648 ≤ a1 ∧ a1 < 2147483648) (r2 : -2147483648 ≤ a2 ∧ a2 < 2147483648) : (0 : Int) ≤ a1 := by omega
theorem z_X11_firstFailing_12 (a0 : Int) (a1 : Int) (a2 : Int) (a3 : Nat) (a4 : Nat) (h0 : 0 ≤ a2 ∧ a2 ≤ 2388 ∧ a2 ≤ ((a4 : Nat) : Int)) (h1 : (0 : Int) ≤ a0) (h2 : 2147483648 - a0 < ((a3 + 1 : Nat) : Int)) (h3 : ¬ (a2 ≤ a0)) (h4 : a1 = a0 + 1 ∨ a0 + 1 < -2147483648 ∨ 2147483648 ≤ a0 + 1) (r0 : -2147483648 ≤ a0 ∧ a0 < 2147483648) (r1 : -2147483648 ≤ a1 ∧ a1 < 2147483648) (r2 : -2147483648 ≤ a2 ∧ a2 < 2147483648) : 2147483648 - a1 < ((a3 : Nat) : Int) := by omega
theorem z_X11_firstFailing_13 (a0 : Int) (a1 : Int) (a2 : Nat) (a3 : Nat) (h0 : 0 ≤ a1 ∧ a1 ≤ 2388 ∧ a1 ≤ ((a3 : Nat) : Int)) (h1 : (0 : Int) ≤ a0) (h2 : 2147483648 - a0 < ((a2 + 1 : Nat) : Int)) (h3 : ¬ (a1 ≤ a0)) (r0 : -2147483648 ≤ a0 ∧ a0 < 2147483648) (r1 : -2147483648 ≤ a1 ∧ a1 < 2147483648) : a0 = -1 ∨ (0 ≤ a0 ∧ a0 < a1) := by omega
abbrev rm_X11_firstFailing : Room := { frames := 4, cells := 0, slots := 0, locals := 104 }
set_option maxHeartbeats 4000000 in
set_option maxRecDepth 100000 in
theorem c_X11_firstFailing (l : Launch) (E : XE) (K : Nat → Nat) (F : Nat → Nat → Nat) (tl z0 z1 z2 z3 z4 z5 z6 z7 z8 z9 z10 z11 z12 z13 z14 z15 z16 z17 z18 z19 z20 : Int32) (ar0 ar1 ar2 ar3 ar4 ar5 ar6 ar7 ar8 ar9 ar10 : Nat → Int32) (h0 : Heap) (a : Nat) (ha : K a = 13) (hR : RV ar1) (e0 : 0 ≤ z4.toInt ∧ z4.toInt ≤ 2388 ∧ z4.toInt ≤ (((fV ar1 ar3 ar4) : Nat) : Int)) : Met l yX11_firstFailing (xw yX11_firstFailing cX11_firstFailing 2 (some .int)) rm_X11_firstFailing (va_Pc [.ref a] (XPh E K F (tl, [z0, z1, z2, z3, z4, z5, z6, z7, z8, z9, z10, z11, z12, z13, z14, z15, z16, z17, z18, z19, z20], [ar0, ar1, ar2, ar3, ar4, ar5, ar6, ar7, ar8, ar9, ar10]) h0)) (XQ E (fun v (u : Unit) => ∃ r : Int32, v = .int r ∧ (r.toInt = -1 ∨ (0 ≤ r.toInt ∧ r.toInt < z4.toInt))) (fun _ H => H = h0)) 0 0 (xA E) := by
  refine x_enter (by decide) (Nat.le_of_ble_eq_true rfl) ?_
  intro p e s m args below meth c Q S hr hlk hnm hQ hP ls hl
  obtain ⟨⟨hz, hK, hT⟩, hh⟩ := hP
  obtain ⟨hx, hb, -, -, -⟩ := id S
  have hS : va_S (xA E) s.heap s.heap [] := va_S.rf
  have hl : lv_has ls 2 [(0, .ref a)] := hl
  refine lv_iconst (v := 0) hx hb dX11_firstFailing_0 (by decide) ?_
  refine lv_istore_n (lv' := [(1, .int 0), (0, .ref a)]) hx hb dX11_firstFailing_1 rfl hl (by decide) rfl (fun ls hl => ?_)
  have L2 : ∀ (N2 : Nat) (x1 : Int32) (locs : List Loc) (ls : Array Slot), (0 : Int) ≤ x1.toInt → 2147483648 - x1.toInt < ((N2 : Nat) : Int) → TW E K F (tl, [z0, z1, z2, z3, z4, z5, z6, z7, z8, z9, z10, z11, z12, z13, z14, z15, z16, z17, z18, z19, z20], [ar0, ar1, ar2, ar3, ar4, ar5, ar6, ar7, ar8, ar9, ar10]) [] s.heap → va_S (xA E) s.heap s.heap locs → lv_has ls 2 [(0, .ref a), (1, .int x1)] → W p l e rm_X11_firstFailing s m args below meth c s.heap locs 0 0 Q (F0 m 2 ls []) := by
    intro N2
    induction N2 with
    | zero =>
      intro x1 locs ls hf3 hm4
      exact absurd hm4 (z_X11_firstFailing_1 x1.toInt hf3 (xr x1))
    | succ N2 ih5 =>
      intro x1 locs ls hf3 hm4 hT hS hl
      refine lv_iload_n hx hb dX11_firstFailing_2 rfl (lv_at hl 1 rfl) ?_
      refine lv_aload_n hx hb dX11_firstFailing_3 rfl (lv_at hl 0 rfl) ?_
      refine gX11_19 S hK hT ha kf_X11_203 dX11_firstFailing_4 (v := z4) rfl ?_
      refine xi_cge (tgt := 42) hx hb (rfl : Int32.toInt x1 = x1.toInt) (rfl : Int32.toInt z4 = z4.toInt) dX11_firstFailing_7 (by decide) (fun c6 => ?_) (fun c6 => ?_)
      · refine lv_iconst (v := (-1)) hx hb dX11_firstFailing_42 (by decide) ?_
        exact x_ri hx hb hr hlk hQ (Nat.le_of_ble_eq_true rfl) (Nat.le_of_ble_eq_true rfl) hS dX11_firstFailing_43 () ⟨_, rfl, (z_X11_firstFailing_2 x1.toInt z4.toInt N2 (fV ar1 ar3 ar4) e0 hf3 hm4 c6 (xr x1) (xr z4))⟩ hh
      · refine lv_aload_n hx hb dX11_firstFailing_10 rfl (lv_at hl 0 rfl) ?_
        refine lv_aload_n hx hb dX11_firstFailing_11 rfl (lv_at hl 0 rfl) ?_
        refine gX11_17 S hK hT ha kf_X11_51 dX11_firstFailing_12 (fun hk7 => ?_)
        refine lv_iload_n hx hb dX11_firstFailing_15 rfl (lv_at hl 1 rfl) ?_
        refine tld_0 S hK hT hk7 (at_43 (f := ar3) rfl) (by decide) (z_X11_firstFailing_3 x1.toInt z4.toInt N2 (fV ar1 ar3 ar4) e0 hf3 hm4 c6 (xr x1) (xr z4)) dX11_firstFailing_16 (fun x8 w9 o10 => ?_)
        have v12 : 0 ≤ x8.toInt ∧ x8.toInt ≤ 11 ∧ 0 ≤ (aI ar1 (10 * x8.toInt + (0 : Int))) := fV_rule (f4 := ar4) w9 (z_X11_firstFailing_4 x1.toInt z4.toInt N2 (fV ar1 ar3 ar4) e0 hf3 hm4 c6 (xr x1) (xr z4))
        have v13 : (-1 ≤ (aI ar1 (10 * x8.toInt + (0 : Int))) ∧ (aI ar1 (10 * x8.toInt + (0 : Int))) ≤ 5) ∧ (0 ≤ (aI ar1 (10 * x8.toInt + (1 : Int))) ∧ (aI ar1 (10 * x8.toInt + (1 : Int))) ≤ 2) ∧ (0 ≤ (aI ar1 (10 * x8.toInt + (2 : Int))) ∧ (aI ar1 (10 * x8.toInt + (2 : Int))) ≤ 2) ∧ (-1 ≤ (aI ar1 (10 * x8.toInt + (3 : Int))) ∧ (aI ar1 (10 * x8.toInt + (3 : Int))) ≤ 2) ∧ ((aI ar1 (10 * x8.toInt + (0 : Int))) = 1 ∨ (aI ar1 (10 * x8.toInt + (0 : Int))) = 3 ∨ (aI ar1 (10 * x8.toInt + (0 : Int))) = 4 → 0 ≤ (aI ar1 (10 * x8.toInt + (3 : Int)))) := RV.row hR (z_X11_firstFailing_5 x8.toInt (aI ar1 (10 * x8.toInt + (0 : Int))) (aI ar3 x1.toInt) w9 v12 (xr x8))
        refine lv_aload_n hx hb dX11_firstFailing_17 rfl (lv_at hl 0 rfl) ?_
        refine gX11_18 S hK hT ha kf_X11_54 dX11_firstFailing_18 (fun hk14 => ?_)
        refine lv_iload_n hx hb dX11_firstFailing_21 rfl (lv_at hl 1 rfl) ?_
        refine tld_0 S hK hT hk14 (at_44 (f := ar4) rfl) (by decide) (z_X11_firstFailing_6 x1.toInt z4.toInt N2 (fV ar1 ar3 ar4) e0 hf3 hm4 c6 (xr x1) (xr z4)) dX11_firstFailing_22 (fun x15 w16 o17 => ?_)
        have v19 : -99 ≤ x15.toInt ∧ x15.toInt ≤ 99 ∧ (aF ar1 x8.toInt) ≤ x15.toInt ∧ x15.toInt ≤ (aL ar1 x8.toInt) := fV_sub w9 w16 (z_X11_firstFailing_7 x1.toInt z4.toInt N2 (fV ar1 ar3 ar4) e0 hf3 hm4 c6 (xr x1) (xr z4))
        refine lv_aload_n hx hb dX11_firstFailing_23 rfl (lv_at hl 0 rfl) ?_
        refine gX11_1 S hK hT ha kf_X11_9 dX11_firstFailing_24 (fun hk20 => ?_)
        refine lv_iconst (v := 0) hx hb dX11_firstFailing_27 (by decide) ?_
        refine x_clp (x_runV (b := a) (As := [.int x8, .int x15, .ref (F a 1), .int 0]) (rest := []) S (c_X11_fails l E K F tl z0 z1 z2 z3 z4 z5 z6 z7 z8 z9 z10 z11 z12 z13 z14 z15 z16 z17 z18 z19 z20 ar0 ar1 ar2 ar3 ar4 ar5 ar6 ar7 ar8 ar9 ar10 s.heap a x8 x15 (F a 1) 0 ha (XO.a hk20 (by decide)) hR (z_X11_firstFailing_8 x8.toInt (aI ar1 (10 * x8.toInt + (0 : Int))) (aI ar1 (10 * x8.toInt + (3 : Int))) (aI ar3 x1.toInt) w9 v12 (v13).1 (v13).2.2.2.1 (v13).2.2.2.2 (xr x8)) (z_X11_firstFailing_9 x8.toInt (aI ar1 (10 * x8.toInt + (0 : Int))) (aI ar1 (10 * x8.toInt + (3 : Int))) (aI ar3 x1.toInt) w9 v12 (v13).1 (v13).2.2.2.1 (v13).2.2.2.2 (xr x8)) (z_X11_firstFailing_10 x15.toInt (aF ar1 x8.toInt) (aI ar4 x1.toInt) (aL ar1 x8.toInt) w16 v19 (xr x15))) mv_X11_fails km_X11_221 rfl rfl ⟨Nat.le_of_ble_eq_true rfl, Nat.le_of_ble_eq_true rfl⟩ (rc_13 hK hT ha) hK (fun _ => XPh.blind) (fun U hU hW => XPh.at hK hz hS hT hU hW) rfl hl.1 (Nat.le_of_ble_eq_true rfl) dX11_firstFailing_28 ⟨Nat.le_of_ble_eq_true rfl, Nat.le_of_ble_eq_true rfl⟩) hS ?_
        rintro _ _ locs ⟨x21, rfl, b22⟩ hS
        refine xi_zeq (tgt := 36) hx hb (rfl : Int32.toInt x21 = x21.toInt) dX11_firstFailing_31 (by decide) (fun c23 => ?_) (fun c23 => ?_)
        · refine xi_iinc (n := 1) (lv' := fun z9 => [(1, .int z9), (0, .ref a)]) (k := 1) hx hb (rfl : Int32.toInt x1 = x1.toInt) (by decide) dX11_firstFailing_36 hl rfl (by decide) (fun _ => rfl) (fun x24 ls t25 hl => ?_)
          have hl : lv_has ls 2 [(1, .int x24), (0, .ref a)] := hl
          refine lv_goto (tgt := 2) hx hb dX11_firstFailing_39 (by decide) ?_
          exact ih5 x24 _ _ (z_X11_firstFailing_11 x1.toInt x24.toInt z4.toInt N2 (fV ar1 ar3 ar4) e0 hf3 hm4 c6 t25 (xr x1) (xr x24) (xr z4)) (z_X11_firstFailing_12 x1.toInt x24.toInt z4.toInt N2 (fV ar1 ar3 ar4) e0 hf3 hm4 c6 t25 (xr x1) (xr x24) (xr z4)) hT.nil hS (lv_sub hl [1, 0] rfl)
        · refine lv_iload_n hx hb dX11_firstFailing_34 rfl (lv_at hl 1 rfl) ?_
          exact x_ri hx hb hr hlk hQ (Nat.le_of_ble_eq_true rfl) (Nat.le_of_ble_eq_true rfl) hS dX11_firstFailing_35 () ⟨_, rfl, (z_X11_firstFailing_13 x1.toInt z4.toInt N2 (fV ar1 ar3 ar4) e0 hf3 hm4 c6 (xr x1) (xr z4))⟩ hh
  exact L2 4294967297 0 _ _ (by decide) (by decide) hT.nil hS (lv_sub hl [1, 0] rfl)

abbrev rm_X11_nothing : Room := { frames := 0, cells := 0, slots := 0, locals := 0 }
set_option maxHeartbeats 4000000 in
set_option maxRecDepth 100000 in
theorem c_X11_nothing (l : Launch) (E : XE) (K : Nat → Nat) (F : Nat → Nat → Nat) (tl z0 z1 z2 z3 z4 z5 z6 z7 z8 z9 z10 z11 z12 z13 z14 z15 z16 z17 z18 z19 z20 : Int32) (ar0 ar1 ar2 ar3 ar4 ar5 ar6 ar7 ar8 ar9 ar10 : Nat → Int32) (a : Nat) (ha : K a = 13) : Met l yX11_nothing (xw yX11_nothing cX11_nothing 1 none) rm_X11_nothing (va_Pc [.ref a] (XP E K F (tl, [z0, z1, z2, z3, z4, z5, z6, z7, z8, z9, z10, z11, z12, z13, z14, z15, z16, z17, z18, z19, z20], [ar0, ar1, ar2, ar3, ar4, ar5, ar6, ar7, ar8, ar9, ar10]))) (XQv E (fun (u : Int32 × Int32 × Int32) => (u.2.2.toInt = 0)) (fun u H => TW E K F (tl, [z0, z1, z2, z3, z4, u.1, u.2.1, u.2.2, z8, z9, z10, z11, z12, z13, z14, z15, z16, z17, z18, z19, z20], [ar0, ar1, ar2, ar3, ar4, ar5, ar6, ar7, ar8, ar9, ar10]) [] H)) 0 0 (xA E) := by
  refine x_enter (by decide) (Nat.le_of_ble_eq_true rfl) ?_
  intro p e s m args below meth c Q S hr hlk hnm hQ hP ls hl
  obtain ⟨hz, hK, hT⟩ := hP
  obtain ⟨hx, hb, -, -, -⟩ := id S
  obtain ⟨H, hT, hS, hgo⟩ : ∃ H : Heap, TW E K F (tl, [z0, z1, z2, z3, z4, z5, z6, z7, z8, z9, z10, z11, z12, z13, z14, z15, z16, z17, z18, z19, z20], [ar0, ar1, ar2, ar3, ar4, ar5, ar6, ar7, ar8, ar9, ar10]) [] H ∧ va_S (xA E) s.heap H [] ∧ H = s.heap := ⟨_, hT, va_S.rf, rfl⟩
  rw [← hgo]
  have hl : lv_has ls 1 [(0, .ref a)] := hl
  refine lv_aload_n hx hb dX11_nothing_0 rfl (lv_at hl 0 rfl) ?_
  refine lv_ldc (v := (-2147483648)) hx hb S.2.2.2.1 (S.2.2.2.2 _ (List.mem_cons_of_mem _ kc_X11_57)) dX11_nothing_1 ?_
  refine pX11_20 (kq := []) (v := (-2147483648)) S hK hT hS ha kf_X11_58 (Nat.le_of_ble_eq_true rfl) dX11_nothing_3 (fun _ h => by cases h) (fun H locs hT hS => ?_)
  have hT : TW E K F (tl, [z0, z1, z2, z3, z4, (-2147483648), z6, z7, z8, z9, z10, z11, z12, z13, z14, z15, z16, z17, z18, z19, z20], [ar0, ar1, ar2, ar3, ar4, ar5, ar6, ar7, ar8, ar9, ar10]) [] H := hT
  refine lv_aload_n hx hb dX11_nothing_6 rfl (lv_at hl 0 rfl) ?_
  refine lv_ldc (v := (-2147483648)) hx hb S.2.2.2.1 (S.2.2.2.2 _ (List.mem_cons_of_mem _ kc_X11_57)) dX11_nothing_7 ?_
  refine pX11_21 (kq := []) (v := (-2147483648)) S hK hT hS ha kf_X11_62 (Nat.le_of_ble_eq_true rfl) dX11_nothing_9 (fun _ h => by cases h) (fun H locs hT hS => ?_)
  have hT : TW E K F (tl, [z0, z1, z2, z3, z4, (-2147483648), (-2147483648), z7, z8, z9, z10, z11, z12, z13, z14, z15, z16, z17, z18, z19, z20], [ar0, ar1, ar2, ar3, ar4, ar5, ar6, ar7, ar8, ar9, ar10]) [] H := hT
  refine lv_aload_n hx hb dX11_nothing_12 rfl (lv_at hl 0 rfl) ?_
  refine lv_iconst (v := 0) hx hb dX11_nothing_13 (by decide) ?_
  refine pX11_23 (kq := []) (v := 0) S hK hT hS ha kf_X11_224 (Nat.le_of_ble_eq_true rfl) dX11_nothing_14 (fun _ h => by cases h) (fun H locs hT hS => ?_)
  have hT : TW E K F (tl, [z0, z1, z2, z3, z4, (-2147483648), (-2147483648), 0, z8, z9, z10, z11, z12, z13, z14, z15, z16, z17, z18, z19, z20], [ar0, ar1, ar2, ar3, ar4, ar5, ar6, ar7, ar8, ar9, ar10]) [] H := hT
  exact x_rv hx hb hr hlk hQ (Nat.le_of_ble_eq_true rfl) (Nat.le_of_ble_eq_true rfl) hS dX11_nothing_17 ((-2147483648), (-2147483648), 0) (show (0 : Int) = 0 by decide) hT.nil

theorem z_X11_puts_1 (a0 : Int) (h0 : 0 ≤ a0 ∧ a0 ≤ 23) (r0 : -2147483648 ≤ a0 ∧ a0 < 2147483648) : 0 ≤ a0 ∧ a0 < ((24 : Nat) : Int) := by omega
theorem z_X11_puts_2 (a0 : Int) (a1 : Int) (h0 : 0 ≤ a1 ∧ a1 ≤ 23) (h1 : a0 = a1 + (1 : Int) ∨ a1 + (1 : Int) < -2147483648 ∨ 2147483648 ≤ a1 + (1 : Int)) (r0 : -2147483648 ≤ a0 ∧ a0 < 2147483648) (r1 : -2147483648 ≤ a1 ∧ a1 < 2147483648) : a0 = a1 + 1 := by omega
abbrev rm_X11_puts : Room := { frames := 0, cells := 0, slots := 0, locals := 0 }
set_option maxHeartbeats 4000000 in
set_option maxRecDepth 100000 in
theorem c_X11_puts (l : Launch) (E : XE) (K : Nat → Nat) (F : Nat → Nat → Nat) (tl z0 z1 z2 z3 z4 z5 z6 z7 z8 z9 z10 z11 z12 z13 z14 z15 z16 z17 z18 z19 z20 : Int32) (ar0 ar1 ar2 ar3 ar4 ar5 ar6 ar7 ar8 ar9 ar10 : Nat → Int32) (a : Nat) (p0 : Int32) (ha : K a = 13) (e0 : 0 ≤ z7.toInt ∧ z7.toInt ≤ 23) : Met l yX11_puts (xw yX11_puts cX11_puts 2 none) rm_X11_puts (va_Pc [.ref a, .int p0] (XP E K F (tl, [z0, z1, z2, z3, z4, z5, z6, z7, z8, z9, z10, z11, z12, z13, z14, z15, z16, z17, z18, z19, z20], [ar0, ar1, ar2, ar3, ar4, ar5, ar6, ar7, ar8, ar9, ar10]))) (XQv E (fun (u : Int32) => (u.toInt = z7.toInt + 1)) (fun u H => TW E K F (tl, [z0, z1, z2, z3, z4, z5, z6, u, z8, z9, z10, z11, z12, z13, z14, z15, z16, z17, z18, z19, z20], [ar0, ar1, ar2, ar3, ar4, ar5, ar6, ar7, ar8, ar9, ar10]) [] H)) 0 0 (xA E) := by
  refine x_enter (by decide) (Nat.le_of_ble_eq_true rfl) ?_
  intro p e s m args below meth c Q S hr hlk hnm hQ hP ls hl
  obtain ⟨hz, hK, hT⟩ := hP
  obtain ⟨hx, hb, -, -, -⟩ := id S
  obtain ⟨H, hT, hS, hgo⟩ : ∃ H : Heap, TW E K F (tl, [z0, z1, z2, z3, z4, z5, z6, z7, z8, z9, z10, z11, z12, z13, z14, z15, z16, z17, z18, z19, z20], [ar0, ar1, ar2, ar3, ar4, ar5, ar6, ar7, ar8, ar9, ar10]) [] H ∧ va_S (xA E) s.heap H [] ∧ H = s.heap := ⟨_, hT, va_S.rf, rfl⟩
  rw [← hgo]
  have hl : lv_has ls 2 [(0, .ref a), (1, .int p0)] := hl
  refine lv_aload_n hx hb dX11_puts_0 rfl (lv_at hl 0 rfl) ?_
  refine gX11_22 S hK hT ha kf_X11_65 dX11_puts_1 (fun hk1 => ?_)
  refine lv_aload_n hx hb dX11_puts_4 rfl (lv_at hl 0 rfl) ?_
  refine gX11_23 S hK hT ha kf_X11_224 dX11_puts_5 (v := z7) rfl ?_
  refine lv_iload_n hx hb dX11_puts_8 rfl (lv_at hl 1 rfl) ?_
  refine lv_i2b hx hb dX11_puts_9 rfl (lv_topi (fun x2 _ => ?_))
  refine as_2 S hK hT hS hk1 ar_45 aw_45 (by decide) (z_X11_puts_1 z7.toInt e0 (xr z7)) dX11_puts_10 (fun H locs hT hS => ?_)
  refine lv_aload_n hx hb dX11_puts_11 rfl (lv_at hl 0 rfl) ?_
  refine lv_dup hx hb dX11_puts_12 rfl ?_
  refine gX11_23 S hK hT ha kf_X11_224 dX11_puts_13 (v := z7) rfl ?_
  refine lv_iconst (v := 1) hx hb dX11_puts_16 (by decide) ?_
  refine xi_iadd hx hb (rfl : Int32.toInt z7 = z7.toInt) ((by decide) : Int32.toInt 1 = (1 : Int)) dX11_puts_17 (fun x3 t4 => ?_)
  refine pX11_23 (kq := []) (v := x3) S hK hT hS ha kf_X11_224 (Nat.le_of_ble_eq_true rfl) dX11_puts_18 (fun _ h => by cases h) (fun H locs hT hS => ?_)
  have hT : TW E K F (tl, [z0, z1, z2, z3, z4, z5, z6, x3, z8, z9, z10, z11, z12, z13, z14, z15, z16, z17, z18, z19, z20], [ar0, ar1, ar2, ar3, ar4, ar5, ar6, ar7, ar8, ar9, ar10]) [] H := hT
  exact x_rv hx hb hr hlk hQ (Nat.le_of_ble_eq_true rfl) (Nat.le_of_ble_eq_true rfl) hS dX11_puts_21 (x3) (z_X11_puts_2 x3.toInt z7.toInt e0 t4 (xr x3) (xr z7)) hT.nil

theorem z_X11_putNumber_1 (a0 : Int) (a1 : Int) (a2 : Int) (h0 : 0 ≤ a2 ∧ a2 ≤ 21) (h1 : a2 ≤ a0 ∧ a0 ≤ a2 + 1) (h2 : a2 ≤ a0 ∧ a0 ≤ a2 + 1) (h3 : a2 ≤ a1 ∧ a1 ≤ a2 + 2) (r0 : -2147483648 ≤ a0 ∧ a0 < 2147483648) (r1 : -2147483648 ≤ a1 ∧ a1 < 2147483648) (r2 : -2147483648 ≤ a2 ∧ a2 < 2147483648) : 0 ≤ a1 ∧ a1 ≤ 23 := by omega
theorem z_X11_putNumber_2 (a0 : Int) (a1 : Int) (a2 : Int) (a3 : Int) (h0 : 0 ≤ a3 ∧ a3 ≤ 21) (h1 : a3 ≤ a1 ∧ a1 ≤ a3 + 1) (h2 : a3 ≤ a1 ∧ a1 ≤ a3 + 1) (h3 : a3 ≤ a2 ∧ a2 ≤ a3 + 2) (h4 : a0 = a2 + 1) (r0 : -2147483648 ≤ a0 ∧ a0 < 2147483648) (r1 : -2147483648 ≤ a1 ∧ a1 < 2147483648) (r2 : -2147483648 ≤ a2 ∧ a2 < 2147483648) (r3 : -2147483648 ≤ a3 ∧ a3 < 2147483648) : a3 + 1 ≤ a0 ∧ a0 ≤ a3 + 3 := by omega
theorem z_X11_putNumber_3 (a0 : Int) (a1 : Int) (h0 : 0 ≤ a1 ∧ a1 ≤ 21) (h1 : a1 ≤ a0 ∧ a0 ≤ a1 + 1) (h2 : a1 ≤ a0 ∧ a0 ≤ a1 + 1) (r0 : -2147483648 ≤ a0 ∧ a0 < 2147483648) (r1 : -2147483648 ≤ a1 ∧ a1 < 2147483648) : a1 ≤ a0 ∧ a0 ≤ a1 + 2 := by omega
theorem z_X11_putNumber_4 (a0 : Int) (a1 : Int) (h0 : 0 ≤ a1 ∧ a1 ≤ 21) (h1 : a1 ≤ a0 ∧ a0 ≤ a1 + 1) (h2 : a1 ≤ a0 ∧ a0 ≤ a1 + 1) (r0 : -2147483648 ≤ a0 ∧ a0 < 2147483648) (r1 : -2147483648 ≤ a1 ∧ a1 < 2147483648) : 0 ≤ a0 ∧ a0 ≤ 23 := by omega
theorem z_X11_putNumber_5 (a0 : Int) (a1 : Int) (a2 : Int) (h0 : 0 ≤ a2 ∧ a2 ≤ 21) (h1 : a2 ≤ a1 ∧ a1 ≤ a2 + 1) (h2 : a2 ≤ a1 ∧ a1 ≤ a2 + 1) (h3 : a0 = a1 + 1) (r0 : -2147483648 ≤ a0 ∧ a0 < 2147483648) (r1 : -2147483648 ≤ a1 ∧ a1 < 2147483648) (r2 : -2147483648 ≤ a2 ∧ a2 < 2147483648) : a2 ≤ a0 ∧ a0 ≤ a2 + 2 := by omega
theorem z_X11_putNumber_6 (a0 : Int) (a1 : Int) (h0 : 0 ≤ a1 ∧ a1 ≤ 21) (h1 : a1 ≤ a0 ∧ a0 ≤ a1 + 1) (r0 : -2147483648 ≤ a0 ∧ a0 < 2147483648) (r1 : -2147483648 ≤ a1 ∧ a1 < 2147483648) : a1 ≤ a0 ∧ a0 ≤ a1 + 1 := by omega
theorem z_X11_putNumber_7 (a0 : Int) (a1 : Int) (h0 : 0 ≤ a1 ∧ a1 ≤ 21) (h1 : a1 ≤ a0 ∧ a0 ≤ a1 + 1) (r0 : -2147483648 ≤ a0 ∧ a0 < 2147483648) (r1 : -2147483648 ≤ a1 ∧ a1 < 2147483648) : a1 ≤ a0 ∧ a0 ≤ a1 + 1 := by omega
theorem z_X11_putNumber_8 (a0 : Int) (h0 : 0 ≤ a0 ∧ a0 ≤ 21) (r0 : -2147483648 ≤ a0 ∧ a0 < 2147483648) : a0 ≤ a0 ∧ a0 ≤ a0 + 1 := by omega
theorem z_X11_putNumber_9 (a0 : Int) (h0 : 0 ≤ a0 ∧ a0 ≤ 21) (r0 : -2147483648 ≤ a0 ∧ a0 < 2147483648) : 0 ≤ a0 ∧ a0 ≤ 23 := by omega
theorem z_X11_putNumber_10 (a0 : Int) (a1 : Int) (h0 : 0 ≤ a1 ∧ a1 ≤ 21) (h1 : a0 = a1 + 1) (r0 : -2147483648 ≤ a0 ∧ a0 < 2147483648) (r1 : -2147483648 ≤ a1 ∧ a1 < 2147483648) : a1 ≤ a0 ∧ a0 ≤ a1 + 1 := by omega
abbrev rm_X11_putNumber : Room := { frames := 1, cells := 0, slots := 0, locals := 21 }
set_option maxHeartbeats 4000000 in
set_option maxRecDepth 100000 in
theorem c_X11_putNumber (l : Launch) (E : XE) (K : Nat → Nat) (F : Nat → Nat → Nat) (tl z0 z1 z2 z3 z4 z5 z6 z7 z8 z9 z10 z11 z12 z13 z14 z15 z16 z17 z18 z19 z20 : Int32) (ar0 ar1 ar2 ar3 ar4 ar5 ar6 ar7 ar8 ar9 ar10 : Nat → Int32) (a : Nat) (p0 : Int32) (ha : K a = 13) (e0 : 0 ≤ z7.toInt ∧ z7.toInt ≤ 21) : Met l yX11_putNumber (xw yX11_putNumber cX11_putNumber 3 none) rm_X11_putNumber (va_Pc [.ref a, .int p0] (XP E K F (tl, [z0, z1, z2, z3, z4, z5, z6, z7, z8, z9, z10, z11, z12, z13, z14, z15, z16, z17, z18, z19, z20], [ar0, ar1, ar2, ar3, ar4, ar5, ar6, ar7, ar8, ar9, ar10]))) (XQv E (fun (u : Int32) => (z7.toInt + 1 ≤ u.toInt ∧ u.toInt ≤ z7.toInt + 3)) (fun u H => TW E K F (tl, [z0, z1, z2, z3, z4, z5, z6, u, z8, z9, z10, z11, z12, z13, z14, z15, z16, z17, z18, z19, z20], [ar0, ar1, ar2, ar3, ar4, ar5, ar6, ar7, ar8, ar9, ar10]) [] H)) 0 0 (xA E) := by
  refine x_enter (by decide) (Nat.le_of_ble_eq_true rfl) ?_
  intro p e s m args below meth c Q S hr hlk hnm hQ hP ls hl
  obtain ⟨hz, hK, hT⟩ := hP
  obtain ⟨hx, hb, -, -, -⟩ := id S
  obtain ⟨H, hT, hS, hgo⟩ : ∃ H : Heap, TW E K F (tl, [z0, z1, z2, z3, z4, z5, z6, z7, z8, z9, z10, z11, z12, z13, z14, z15, z16, z17, z18, z19, z20], [ar0, ar1, ar2, ar3, ar4, ar5, ar6, ar7, ar8, ar9, ar10]) [] H ∧ va_S (xA E) s.heap H [] ∧ H = s.heap := ⟨_, hT, va_S.rf, rfl⟩
  rw [← hgo]
  have hl : lv_has ls 3 [(0, .ref a), (1, .int p0)] := hl
  refine lv_iload_n hx hb dX11_putNumber_0 rfl (lv_at hl 1 rfl) ?_
  have J10 : ∀ (x1 : Int32) (H : Heap) (locs : List Loc) (ls : Array Slot), z7.toInt ≤ x1.toInt ∧ x1.toInt ≤ z7.toInt + 1 → TW E K F (tl, [z0, z1, z2, z3, z4, z5, z6, x1, z8, z9, z10, z11, z12, z13, z14, z15, z16, z17, z18, z19, z20], [ar0, ar1, ar2, ar3, ar4, ar5, ar6, ar7, ar8, ar9, ar10]) [] H → va_S (xA E) s.heap H locs → lv_has ls 3 [(0, .ref a), (1, .int p0)] → W p l e rm_X11_putNumber s m args below meth c H locs 0 0 Q (F0 m 10 ls []) := by
    intro x1 H locs ls hf2 hT hS hl
    refine lv_iload_n hx hb dX11_putNumber_10 rfl (lv_at hl 1 rfl) ?_
    have J20 : ∀ (x3 : Int32) (H : Heap) (locs : List Loc) (ls : Array Slot), z7.toInt ≤ x1.toInt ∧ x1.toInt ≤ z7.toInt + 1 → TW E K F (tl, [z0, z1, z2, z3, z4, z5, z6, x1, z8, z9, z10, z11, z12, z13, z14, z15, z16, z17, z18, z19, z20], [ar0, ar1, ar2, ar3, ar4, ar5, ar6, ar7, ar8, ar9, ar10]) [] H → va_S (xA E) s.heap H locs → lv_has ls 3 [(0, .ref a)] → W p l e rm_X11_putNumber s m args below meth c H locs 0 0 Q (F0 m 20 ls [.int x3]) := by
      intro x3 H locs ls hf4 hT hS hl
      refine lv_istore_n (lv' := [(2, .int x3), (0, .ref a)]) hx hb dX11_putNumber_20 rfl hl (by decide) rfl (fun ls hl => ?_)
      refine lv_iload_n hx hb dX11_putNumber_21 rfl (lv_at hl 0 rfl) ?_
      refine lv_bipush (v := 9) hx hb dX11_putNumber_22 (by decide) ?_
      have J38 : ∀ (x5 : Int32) (H : Heap) (locs : List Loc) (ls : Array Slot), z7.toInt ≤ x5.toInt ∧ x5.toInt ≤ z7.toInt + 2 → TW E K F (tl, [z0, z1, z2, z3, z4, z5, z6, x5, z8, z9, z10, z11, z12, z13, z14, z15, z16, z17, z18, z19, z20], [ar0, ar1, ar2, ar3, ar4, ar5, ar6, ar7, ar8, ar9, ar10]) [] H → va_S (xA E) s.heap H locs → lv_has ls 3 [(0, .ref a), (2, .int x3)] → W p l e rm_X11_putNumber s m args below meth c H locs 0 0 Q (F0 m 38 ls []) := by
        intro x5 H locs ls hf6 hT hS hl
        refine lv_aload_n hx hb dX11_putNumber_38 rfl (lv_at hl 0 rfl) ?_
        refine lv_bipush (v := 48) hx hb dX11_putNumber_39 (by decide) ?_
        refine lv_iload_n hx hb dX11_putNumber_41 rfl (lv_at hl 1 rfl) ?_
        refine lv_bipush (v := 10) hx hb dX11_putNumber_42 (by decide) ?_
        refine xi_irem hx hb (rfl : Int32.toInt x3 = x3.toInt) ((by decide) : Int32.toInt 10 = (10 : Int)) (by decide) dX11_putNumber_44 (fun x7 t8 => ?_)
        refine xi_iadd hx hb ((by decide) : Int32.toInt 48 = (48 : Int)) (rfl : Int32.toInt x7 = x7.toInt) dX11_putNumber_45 (fun x9 t10 => ?_)
        refine x_cv0 (x_runV (b := a) (As := [.int x9]) (rest := []) S (c_X11_puts l E K F tl z0 z1 z2 z3 z4 z5 z6 x5 z8 z9 z10 z11 z12 z13 z14 z15 z16 z17 z18 z19 z20 ar0 ar1 ar2 ar3 ar4 ar5 ar6 ar7 ar8 ar9 ar10 a x9 ha (z_X11_putNumber_1 x1.toInt x5.toInt z7.toInt e0 hf2 hf4 hf6 (xr x1) (xr x5) (xr z7))) mv_X11_puts km_X11_227 rfl rfl ⟨Nat.le_of_ble_eq_true rfl, Nat.le_of_ble_eq_true rfl⟩ (rc_13 hK hT ha) hK (fun _ => XP.blind) (fun U hU hW => XP.at hK hz hS hT hU hW) rfl hl.1 (Nat.le_of_ble_eq_true rfl) dX11_putNumber_46 ⟨Nat.le_of_ble_eq_true rfl, Nat.le_of_ble_eq_true rfl⟩) hS ?_
        rintro u11 H locs t12 hT hS
        have hT : TW E K F (tl, [z0, z1, z2, z3, z4, z5, z6, u11, z8, z9, z10, z11, z12, z13, z14, z15, z16, z17, z18, z19, z20], [ar0, ar1, ar2, ar3, ar4, ar5, ar6, ar7, ar8, ar9, ar10]) [] H := hT
        have t12 : u11.toInt = x5.toInt + 1 := t12
        exact x_rv hx hb hr hlk hQ (Nat.le_of_ble_eq_true rfl) (Nat.le_of_ble_eq_true rfl) hS dX11_putNumber_49 (u11) (z_X11_putNumber_2 u11.toInt x1.toInt x5.toInt z7.toInt e0 hf2 hf4 hf6 t12 (xr u11) (xr x1) (xr x5) (xr z7)) hT.nil
      refine xi_cle (tgt := 38) hx hb (rfl : Int32.toInt x3 = x3.toInt) ((by decide) : Int32.toInt 9 = (9 : Int)) dX11_putNumber_24 (by decide) (fun c15 => ?_) (fun c15 => ?_)
      · exact J38 x1 _ _ _ (z_X11_putNumber_3 x1.toInt z7.toInt e0 hf2 hf4 (xr x1) (xr z7)) hT.nil hS (lv_sub hl [1, 0] rfl)
      · refine lv_aload_n hx hb dX11_putNumber_27 rfl (lv_at hl 1 rfl) ?_
        refine lv_bipush (v := 48) hx hb dX11_putNumber_28 (by decide) ?_
        refine lv_iload_n hx hb dX11_putNumber_30 rfl (lv_at hl 0 rfl) ?_
        refine lv_bipush (v := 10) hx hb dX11_putNumber_31 (by decide) ?_
        refine xi_idiv hx hb (rfl : Int32.toInt x3 = x3.toInt) ((by decide) : Int32.toInt 10 = (10 : Int)) (by decide) dX11_putNumber_33 (fun x16 t17 => ?_)
        refine xi_iadd hx hb ((by decide) : Int32.toInt 48 = (48 : Int)) (rfl : Int32.toInt x16 = x16.toInt) dX11_putNumber_34 (fun x18 t19 => ?_)
        refine x_cv0 (x_runV (b := a) (As := [.int x18]) (rest := []) S (c_X11_puts l E K F tl z0 z1 z2 z3 z4 z5 z6 x1 z8 z9 z10 z11 z12 z13 z14 z15 z16 z17 z18 z19 z20 ar0 ar1 ar2 ar3 ar4 ar5 ar6 ar7 ar8 ar9 ar10 a x18 ha (z_X11_putNumber_4 x1.toInt z7.toInt e0 hf2 hf4 (xr x1) (xr z7))) mv_X11_puts km_X11_227 rfl rfl ⟨Nat.le_of_ble_eq_true rfl, Nat.le_of_ble_eq_true rfl⟩ (rc_13 hK hT ha) hK (fun _ => XP.blind) (fun U hU hW => XP.at hK hz hS hT hU hW) rfl hl.1 (Nat.le_of_ble_eq_true rfl) dX11_putNumber_35 ⟨Nat.le_of_ble_eq_true rfl, Nat.le_of_ble_eq_true rfl⟩) hS ?_
        rintro u20 H locs t21 hT hS
        have hT : TW E K F (tl, [z0, z1, z2, z3, z4, z5, z6, u20, z8, z9, z10, z11, z12, z13, z14, z15, z16, z17, z18, z19, z20], [ar0, ar1, ar2, ar3, ar4, ar5, ar6, ar7, ar8, ar9, ar10]) [] H := hT
        have t21 : u20.toInt = x1.toInt + 1 := t21
        exact J38 u20 _ _ _ (z_X11_putNumber_5 u20.toInt x1.toInt z7.toInt e0 hf2 hf4 t21 (xr u20) (xr x1) (xr z7)) hT.nil hS (lv_sub hl [1, 0] rfl)
    refine xi_zge (tgt := 19) hx hb (rfl : Int32.toInt p0 = p0.toInt) dX11_putNumber_11 (by decide) (fun c24 => ?_) (fun c24 => ?_)
    · refine lv_iload_n hx hb dX11_putNumber_19 rfl (lv_at hl 1 rfl) ?_
      exact J20 p0 _ _ _ (z_X11_putNumber_6 x1.toInt z7.toInt e0 hf2 (xr x1) (xr z7)) hT.nil hS (lv_sub hl [0] rfl)
    · refine lv_iload_n hx hb dX11_putNumber_14 rfl (lv_at hl 1 rfl) ?_
      refine xi_ineg hx hb (rfl : Int32.toInt p0 = p0.toInt) dX11_putNumber_15 (fun x25 t26 => ?_)
      refine lv_goto (tgt := 20) hx hb dX11_putNumber_16 (by decide) ?_
      exact J20 x25 _ _ _ (z_X11_putNumber_7 x1.toInt z7.toInt e0 hf2 (xr x1) (xr z7)) hT.nil hS (lv_sub hl [0] rfl)
  refine xi_zge (tgt := 10) hx hb (rfl : Int32.toInt p0 = p0.toInt) dX11_putNumber_1 (by decide) (fun c27 => ?_) (fun c27 => ?_)
  · exact J10 z7 _ _ _ (z_X11_putNumber_8 z7.toInt e0 (xr z7)) hT.nil hS (lv_sub hl [0, 1] rfl)
  · refine lv_aload_n hx hb dX11_putNumber_4 rfl (lv_at hl 0 rfl) ?_
    refine lv_bipush (v := 45) hx hb dX11_putNumber_5 (by decide) ?_
    refine x_cv0 (x_runV (b := a) (As := [.int 45]) (rest := []) S (c_X11_puts l E K F tl z0 z1 z2 z3 z4 z5 z6 z7 z8 z9 z10 z11 z12 z13 z14 z15 z16 z17 z18 z19 z20 ar0 ar1 ar2 ar3 ar4 ar5 ar6 ar7 ar8 ar9 ar10 a 45 ha (z_X11_putNumber_9 z7.toInt e0 (xr z7))) mv_X11_puts km_X11_227 rfl rfl ⟨Nat.le_of_ble_eq_true rfl, Nat.le_of_ble_eq_true rfl⟩ (rc_13 hK hT ha) hK (fun _ => XP.blind) (fun U hU hW => XP.at hK hz hS hT hU hW) rfl hl.1 (Nat.le_of_ble_eq_true rfl) dX11_putNumber_7 ⟨Nat.le_of_ble_eq_true rfl, Nat.le_of_ble_eq_true rfl⟩) hS ?_
    rintro u28 H locs t29 hT hS
    have hT : TW E K F (tl, [z0, z1, z2, z3, z4, z5, z6, u28, z8, z9, z10, z11, z12, z13, z14, z15, z16, z17, z18, z19, z20], [ar0, ar1, ar2, ar3, ar4, ar5, ar6, ar7, ar8, ar9, ar10]) [] H := hT
    have t29 : u28.toInt = z7.toInt + 1 := t29
    exact J10 u28 _ _ _ (z_X11_putNumber_10 u28.toInt z7.toInt e0 t29 (xr u28) (xr z7)) hT.nil hS (lv_sub hl [0, 1] rfl)

theorem z_X11_putWord_1 (a0 : Int) (a1 : Int) (a2 : Int) (a3 : Nat) (h0 : a1 = a2 + a0 ∧ a0 ≤ ((a3 : Nat) : Int)) (h1 : (0 : Int) ≤ a0) (h2 : 0 ≤ a2) (h3 : a2 + ((a3 : Nat) : Int) ≤ 24) (h4 : 3 ≤ ((a3 : Nat) : Int) ∧ ((a3 : Nat) : Int) ≤ 7) (r0 : -2147483648 ≤ a0 ∧ a0 < 2147483648) (r1 : -2147483648 ≤ a1 ∧ a1 < 2147483648) (r2 : -2147483648 ≤ a2 ∧ a2 < 2147483648) : ¬ (2147483648 - a0 < ((0 : Nat) : Int)) := by omega
theorem z_X11_putWord_2 (a0 : Int) (a1 : Int) (a2 : Int) (a3 : Int) (a4 : Nat) (a5 : Nat) (h0 : 0 ≤ a3) (h1 : a3 + ((a5 : Nat) : Int) ≤ 24) (h2 : 3 ≤ ((a5 : Nat) : Int) ∧ ((a5 : Nat) : Int) ≤ 7) (h3 : a1 = a3 + a0 ∧ a0 ≤ ((a5 : Nat) : Int)) (h4 : (0 : Int) ≤ a0) (h5 : 2147483648 - a0 < ((a4 + 1 : Nat) : Int)) (h6 : a2 = ((a5 : Nat) : Int)) (h7 : a2 ≤ a0) (r0 : -2147483648 ≤ a0 ∧ a0 < 2147483648) (r1 : -2147483648 ≤ a1 ∧ a1 < 2147483648) (r2 : -2147483648 ≤ a2 ∧ a2 < 2147483648) (r3 : -2147483648 ≤ a3 ∧ a3 < 2147483648) : a1 = a3 + ((a5 : Nat) : Int) := by omega
theorem z_X11_putWord_3 (a0 : Int) (a1 : Int) (a2 : Int) (a3 : Int) (a4 : Nat) (a5 : Nat) (h0 : 0 ≤ a3) (h1 : a3 + ((a5 : Nat) : Int) ≤ 24) (h2 : 3 ≤ ((a5 : Nat) : Int) ∧ ((a5 : Nat) : Int) ≤ 7) (h3 : a1 = a3 + a0 ∧ a0 ≤ ((a5 : Nat) : Int)) (h4 : (0 : Int) ≤ a0) (h5 : 2147483648 - a0 < ((a4 + 1 : Nat) : Int)) (h6 : a2 = ((a5 : Nat) : Int)) (h7 : ¬ (a2 ≤ a0)) (r0 : -2147483648 ≤ a0 ∧ a0 < 2147483648) (r1 : -2147483648 ≤ a1 ∧ a1 < 2147483648) (r2 : -2147483648 ≤ a2 ∧ a2 < 2147483648) (r3 : -2147483648 ≤ a3 ∧ a3 < 2147483648) : 0 ≤ a0 ∧ a0 < ((a5 : Nat) : Int) := by omega
theorem z_X11_putWord_4 (a0 : Int) (a1 : Int) (a2 : Int) (a3 : Int) (a4 : Nat) (a5 : Nat) (h0 : 0 ≤ a3) (h1 : a3 + ((a5 : Nat) : Int) ≤ 24) (h2 : 3 ≤ ((a5 : Nat) : Int) ∧ ((a5 : Nat) : Int) ≤ 7) (h3 : a1 = a3 + a0 ∧ a0 ≤ ((a5 : Nat) : Int)) (h4 : (0 : Int) ≤ a0) (h5 : 2147483648 - a0 < ((a4 + 1 : Nat) : Int)) (h6 : a2 = ((a5 : Nat) : Int)) (h7 : ¬ (a2 ≤ a0)) (r0 : -2147483648 ≤ a0 ∧ a0 < 2147483648) (r1 : -2147483648 ≤ a1 ∧ a1 < 2147483648) (r2 : -2147483648 ≤ a2 ∧ a2 < 2147483648) (r3 : -2147483648 ≤ a3 ∧ a3 < 2147483648) : 0 ≤ a1 ∧ a1 ≤ 23 := by omega
theorem z_X11_putWord_5 (a0 : Int) (a1 : Int) (a2 : Int) (a3 : Int) (a4 : Int) (a5 : Int) (a6 : Nat) (a7 : Nat) (h0 : 0 ≤ a5) (h1 : a5 + ((a7 : Nat) : Int) ≤ 24) (h2 : 3 ≤ ((a7 : Nat) : Int) ∧ ((a7 : Nat) : Int) ≤ 7) (h3 : a3 = a5 + a1 ∧ a1 ≤ ((a7 : Nat) : Int)) (h4 : (0 : Int) ≤ a1) (h5 : 2147483648 - a1 < ((a6 + 1 : Nat) : Int)) (h6 : a4 = ((a7 : Nat) : Int)) (h7 : ¬ (a4 ≤ a1)) (h8 : a0 = a3 + 1) (h9 : a2 = a1 + 1 ∨ a1 + 1 < -2147483648 ∨ 2147483648 ≤ a1 + 1) (r0 : -2147483648 ≤ a0 ∧ a0 < 2147483648) (r1 : -2147483648 ≤ a1 ∧ a1 < 2147483648) (r2 : -2147483648 ≤ a2 ∧ a2 < 2147483648) (r3 : -2147483648 ≤ a3 ∧ a3 < 2147483648) (r4 : -2147483648 ≤ a4 ∧ a4 < 2147483648) (r5 : -2147483648 ≤ a5 ∧ a5 < 2147483648) : a0 = a5 + a2 ∧ a2 ≤ ((a7 : Nat) : Int) := by omega
theorem z_X11_putWord_6 (a0 : Int) (a1 : Int) (a2 : Int) (a3 : Int) (a4 : Int) (a5 : Int) (a6 : Nat) (a7 : Nat) (h0 : 0 ≤ a5) (h1 : a5 + ((a7 : Nat) : Int) ≤ 24) (h2 : 3 ≤ ((a7 : Nat) : Int) ∧ ((a7 : Nat) : Int) ≤ 7) (h3 : a3 = a5 + a1 ∧ a1 ≤ ((a7 : Nat) : Int)) (h4 : (0 : Int) ≤ a1) (h5 : 2147483648 - a1 < ((a6 + 1 : Nat) : Int)) (h6 : a4 = ((a7 : Nat) : Int)) (h7 : ¬ (a4 ≤ a1)) (h8 : a0 = a3 + 1) (h9 : a2 = a1 + 1 ∨ a1 + 1 < -2147483648 ∨ 2147483648 ≤ a1 + 1) (r0 : -2147483648 ≤ a0 ∧ a0 < 2147483648) (r1 : -2147483648 ≤ a1 ∧ a1 < 2147483648) (r2 : -2147483648 ≤ a2 ∧ a2 < 2147483648) (r3 : -2147483648 ≤ a3 ∧ a3 < 2147483648) (r4 : -2147483648 ≤ a4 ∧ a4 < 2147483648) (r5 : -2147483648 ≤ a5 ∧ a5 < 2147483648) : (0 : Int) ≤ a2 := by omega
theorem z_X11_putWord_7 (a0 : Int) (a1 : Int) (a2 : Int) (a3 : Int) (a4 : Int) (a5 : Int) (a6 : Nat) (a7 : Nat) (h0 : 0 ≤ a5) (h1 : a5 + ((a7 : Nat) : Int) ≤ 24) (h2 : 3 ≤ ((a7 : Nat) : Int) ∧ ((a7 : Nat) : Int) ≤ 7) (h3 : a3 = a5 + a1 ∧ a1 ≤ ((a7 : Nat) : Int)) (h4 : (0 : Int) ≤ a1) (h5 : 2147483648 - a1 < ((a6 + 1 : Nat) : Int)) (h6 : a4 = ((a7 : Nat) : Int)) (h7 : ¬ (a4 ≤ a1)) (h8 : a0 = a3 + 1) (h9 : a2 = a1 + 1 ∨ a1 + 1 < -2147483648 ∨ 2147483648 ≤ a1 + 1) (r0 : -2147483648 ≤ a0 ∧ a0 < 2147483648) (r1 : -2147483648 ≤ a1 ∧ a1 < 2147483648) (r2 : -2147483648 ≤ a2 ∧ a2 < 2147483648) (r3 : -2147483648 ≤ a3 ∧ a3 < 2147483648) (r4 : -2147483648 ≤ a4 ∧ a4 < 2147483648) (r5 : -2147483648 ≤ a5 ∧ a5 < 2147483648) : 2147483648 - a2 < ((a6 : Nat) : Int) := by omega
theorem z_X11_putWord_8 (a0 : Int) (a1 : Nat) (h0 : 0 ≤ a0) (h1 : a0 + ((a1 : Nat) : Int) ≤ 24) (h2 : 3 ≤ ((a1 : Nat) : Int) ∧ ((a1 : Nat) : Int) ≤ 7) (r0 : -2147483648 ≤ a0 ∧ a0 < 2147483648) : a0 = a0 + (0 : Int) ∧ (0 : Int) ≤ ((a1 : Nat) : Int) := by omega
abbrev rm_X11_putWord : Room := { frames := 1, cells := 0, slots := 0, locals := 21 }
set_option maxHeartbeats 4000000 in
set_option maxRecDepth 100000 in
theorem c_X11_putWord (l : Launch) (E : XE) (K : Nat → Nat) (F : Nat → Nat → Nat) (tl z0 z1 z2 z3 z4 z5 z6 z7 z8 z9 z10 z11 z12 z13 z14 z15 z16 z17 z18 z19 z20 : Int32) (ar0 ar1 ar2 ar3 ar4 ar5 ar6 ar7 ar8 ar9 ar10 : Nat → Int32) (a : Nat) (p0 n0 : Nat) (ha : K a = 13) (hp0 : XWd K p0 n0) (e0 : 0 ≤ z7.toInt) (e1 : z7.toInt + (((n0) : Nat) : Int) ≤ 24) : Met l yX11_putWord (xw yX11_putWord cX11_putWord 3 none) rm_X11_putWord (va_Pc [.ref a, .ref p0] (XP E K F (tl, [z0, z1, z2, z3, z4, z5, z6, z7, z8, z9, z10, z11, z12, z13, z14, z15, z16, z17, z18, z19, z20], [ar0, ar1, ar2, ar3, ar4, ar5, ar6, ar7, ar8, ar9, ar10]))) (XQv E (fun (u : Int32) => (u.toInt = z7.toInt + (((n0) : Nat) : Int))) (fun u H => TW E K F (tl, [z0, z1, z2, z3, z4, z5, z6, u, z8, z9, z10, z11, z12, z13, z14, z15, z16, z17, z18, z19, z20], [ar0, ar1, ar2, ar3, ar4, ar5, ar6, ar7, ar8, ar9, ar10]) [] H)) 0 0 (xA E) := by
  refine x_enter (by decide) (Nat.le_of_ble_eq_true rfl) ?_
  intro p e s m args below meth c Q S hr hlk hnm hQ hP ls hl
  obtain ⟨hz, hK, hT⟩ := hP
  obtain ⟨hx, hb, -, -, -⟩ := id S
  obtain ⟨H, hT, hS, hgo⟩ : ∃ H : Heap, TW E K F (tl, [z0, z1, z2, z3, z4, z5, z6, z7, z8, z9, z10, z11, z12, z13, z14, z15, z16, z17, z18, z19, z20], [ar0, ar1, ar2, ar3, ar4, ar5, ar6, ar7, ar8, ar9, ar10]) [] H ∧ va_S (xA E) s.heap H [] ∧ H = s.heap := ⟨_, hT, va_S.rf, rfl⟩
  rw [← hgo]
  have hl : lv_has ls 3 [(0, .ref a), (1, .ref p0)] := hl
  refine lv_iconst (v := 0) hx hb dX11_putWord_0 (by decide) ?_
  refine lv_istore_n (lv' := [(2, .int 0), (0, .ref a), (1, .ref p0)]) hx hb dX11_putWord_1 rfl hl (by decide) rfl (fun ls hl => ?_)
  have L2 : ∀ (N3 : Nat) (x1 : Int32) (x2 : Int32) (H : Heap) (locs : List Loc) (ls : Array Slot), x2.toInt = z7.toInt + x1.toInt ∧ x1.toInt ≤ (((n0) : Nat) : Int) → (0 : Int) ≤ x1.toInt → 2147483648 - x1.toInt < ((N3 : Nat) : Int) → TW E K F (tl, [z0, z1, z2, z3, z4, z5, z6, x2, z8, z9, z10, z11, z12, z13, z14, z15, z16, z17, z18, z19, z20], [ar0, ar1, ar2, ar3, ar4, ar5, ar6, ar7, ar8, ar9, ar10]) [] H → va_S (xA E) s.heap H locs → lv_has ls 3 [(0, .ref a), (1, .ref p0), (2, .int x1)] → W p l e rm_X11_putWord s m args below meth c H locs 0 0 Q (F0 m 2 ls []) := by
    intro N3
    induction N3 with
    | zero =>
      intro x1 x2 H locs ls hf4 hf5 hm6
      exact absurd hm6 (z_X11_putWord_1 x1.toInt x2.toInt z7.toInt n0 hf4 hf5 e0 e1 (XWd.lim hp0) (xr x1) (xr x2) (xr z7))
    | succ N3 ih7 =>
      intro x1 x2 H locs ls hf4 hf5 hm6 hT hS hl
      refine lv_iload_n hx hb dX11_putWord_2 rfl (lv_at hl 2 rfl) ?_
      refine lv_aload_n hx hb dX11_putWord_3 rfl (lv_at hl 1 rfl) ?_
      refine len_wd S hK hT hp0 dX11_putWord_4 (fun x8 t9 => ?_)
      refine xi_cge (tgt := 21) hx hb (rfl : Int32.toInt x1 = x1.toInt) (rfl : Int32.toInt x8 = x8.toInt) dX11_putWord_5 (by decide) (fun c10 => ?_) (fun c10 => ?_)
      · exact x_rv hx hb hr hlk hQ (Nat.le_of_ble_eq_true rfl) (Nat.le_of_ble_eq_true rfl) hS dX11_putWord_21 (x2) (z_X11_putWord_2 x1.toInt x2.toInt x8.toInt z7.toInt N3 n0 e0 e1 (XWd.lim hp0) hf4 hf5 hm6 t9 c10 (xr x1) (xr x2) (xr x8) (xr z7)) hT.nil
      · refine lv_aload_n hx hb dX11_putWord_8 rfl (lv_at hl 0 rfl) ?_
        refine lv_aload_n hx hb dX11_putWord_9 rfl (lv_at hl 1 rfl) ?_
        refine lv_iload_n hx hb dX11_putWord_10 rfl (lv_at hl 2 rfl) ?_
        refine ald_wd S hK hT hp0 (z_X11_putWord_3 x1.toInt x2.toInt x8.toInt z7.toInt N3 n0 e0 e1 (XWd.lim hp0) hf4 hf5 hm6 t9 c10 (xr x1) (xr x2) (xr x8) (xr z7)) dX11_putWord_11 (fun x11 => ?_)
        refine x_cv0 (x_runV (b := a) (As := [.int x11]) (rest := []) S (c_X11_puts l E K F tl z0 z1 z2 z3 z4 z5 z6 x2 z8 z9 z10 z11 z12 z13 z14 z15 z16 z17 z18 z19 z20 ar0 ar1 ar2 ar3 ar4 ar5 ar6 ar7 ar8 ar9 ar10 a x11 ha (z_X11_putWord_4 x1.toInt x2.toInt x8.toInt z7.toInt N3 n0 e0 e1 (XWd.lim hp0) hf4 hf5 hm6 t9 c10 (xr x1) (xr x2) (xr x8) (xr z7))) mv_X11_puts km_X11_227 rfl rfl ⟨Nat.le_of_ble_eq_true rfl, Nat.le_of_ble_eq_true rfl⟩ (rc_13 hK hT ha) hK (fun _ => XP.blind) (fun U hU hW => XP.at hK hz hS hT hU hW) rfl hl.1 (Nat.le_of_ble_eq_true rfl) dX11_putWord_12 ⟨Nat.le_of_ble_eq_true rfl, Nat.le_of_ble_eq_true rfl⟩) hS ?_
        rintro u12 H locs t13 hT hS
        have hT : TW E K F (tl, [z0, z1, z2, z3, z4, z5, z6, u12, z8, z9, z10, z11, z12, z13, z14, z15, z16, z17, z18, z19, z20], [ar0, ar1, ar2, ar3, ar4, ar5, ar6, ar7, ar8, ar9, ar10]) [] H := hT
        have t13 : u12.toInt = x2.toInt + 1 := t13
        refine xi_iinc (n := 1) (lv' := fun z9 => [(2, .int z9), (0, .ref a), (1, .ref p0)]) (k := 2) hx hb (rfl : Int32.toInt x1 = x1.toInt) (by decide) dX11_putWord_15 hl rfl (by decide) (fun _ => rfl) (fun x16 ls t17 hl => ?_)
        have hl : lv_has ls 3 [(2, .int x16), (0, .ref a), (1, .ref p0)] := hl
        refine lv_goto (tgt := 2) hx hb dX11_putWord_18 (by decide) ?_
        exact ih7 x16 u12 _ _ _ (z_X11_putWord_5 u12.toInt x1.toInt x16.toInt x2.toInt x8.toInt z7.toInt N3 n0 e0 e1 (XWd.lim hp0) hf4 hf5 hm6 t9 c10 t13 t17 (xr u12) (xr x1) (xr x16) (xr x2) (xr x8) (xr z7)) (z_X11_putWord_6 u12.toInt x1.toInt x16.toInt x2.toInt x8.toInt z7.toInt N3 n0 e0 e1 (XWd.lim hp0) hf4 hf5 hm6 t9 c10 t13 t17 (xr u12) (xr x1) (xr x16) (xr x2) (xr x8) (xr z7)) (z_X11_putWord_7 u12.toInt x1.toInt x16.toInt x2.toInt x8.toInt z7.toInt N3 n0 e0 e1 (XWd.lim hp0) hf4 hf5 hm6 t9 c10 t13 t17 (xr u12) (xr x1) (xr x16) (xr x2) (xr x8) (xr z7)) hT.nil hS (lv_sub hl [1, 2, 0] rfl)
  exact L2 4294967297 0 z7 _ _ _ (z_X11_putWord_8 z7.toInt n0 e0 e1 (XWd.lim hp0) (xr z7)) (by decide) (by decide) hT.nil hS (lv_sub hl [1, 2, 0] rfl)

theorem z_X11_wordOf_1 (a0 : Int) (r0 : -2147483648 ≤ a0 ∧ a0 < 2147483648) : (a0 < 0 ∨ 4 < a0) ∨ (a0 = 0) ∨ (a0 = 1) ∨ (a0 = 2) ∨ (a0 = 3) ∨ (a0 = 4) := by omega
abbrev rm_X11_wordOf : Room := { frames := 0, cells := 0, slots := 0, locals := 0 }
set_option maxHeartbeats 4000000 in
set_option maxRecDepth 100000 in
theorem c_X11_wordOf (l : Launch) (E : XE) (K : Nat → Nat) (F : Nat → Nat → Nat) (tl z0 z1 z2 z3 z4 z5 z6 z7 z8 z9 z10 z11 z12 z13 z14 z15 z16 z17 z18 z19 z20 : Int32) (ar0 ar1 ar2 ar3 ar4 ar5 ar6 ar7 ar8 ar9 ar10 : Nat → Int32) (h0 : Heap) (a : Nat) (p0 : Int32) (ha : K a = 13) : Met l yX11_wordOf (xw yX11_wordOf cX11_wordOf 2 (some (.array .char))) rm_X11_wordOf (va_Pc [.ref a, .int p0] (XPh E K F (tl, [z0, z1, z2, z3, z4, z5, z6, z7, z8, z9, z10, z11, z12, z13, z14, z15, z16, z17, z18, z19, z20], [ar0, ar1, ar2, ar3, ar4, ar5, ar6, ar7, ar8, ar9, ar10]) h0)) (XQ E (fun v (u : Unit) => ∃ r n : Nat, v = .ref r ∧ XWd K r n ∧ ((n : Nat) : Int) ≤ 6) (fun _ H => H = h0)) 0 0 (xA E) := by
  refine x_enter (by decide) (Nat.le_of_ble_eq_true rfl) ?_
  intro p e s m args below meth c Q S hr hlk hnm hQ hP ls hl
  obtain ⟨⟨hz, hK, hT⟩, hh⟩ := hP
  obtain ⟨hx, hb, -, -, -⟩ := id S
  have hS : va_S (xA E) s.heap s.heap [] := va_S.rf
  have hl : lv_has ls 2 [(0, .ref a), (1, .int p0)] := hl
  refine lv_iload_n hx hb dX11_wordOf_0 rfl (lv_at hl 1 rfl) ?_
  rcases ((z_X11_wordOf_1 p0.toInt (xr p0)) : (p0.toInt < 0 ∨ 4 < p0.toInt) ∨ (p0.toInt = 0) ∨ (p0.toInt = 1) ∨ (p0.toInt = 2) ∨ (p0.toInt = 3) ∨ (p0.toInt = 4)) with c1 | c1 | c1 | c1 | c1 | c1
  · refine lv_tableOut (tgt := 61) hx hb dX11_wordOf_1 c1 (by decide) ?_
    refine lv_aload_n hx hb dX11_wordOf_61 rfl (lv_at hl 0 rfl) ?_
    refine gX11_30 S hK hT ha kf_X11_88 dX11_wordOf_62 (fun hk2 => ?_)
    exact x_ra hx hb hr (by first | exact Or.inl ⟨_, rfl⟩ | exact Or.inr ⟨_, rfl⟩) (by first | exact Or.inl rfl | exact Or.inr ⟨_, rfl⟩) hlk hQ (Nat.le_of_ble_eq_true rfl) (Nat.le_of_ble_eq_true rfl) hS dX11_wordOf_65 () ⟨_, _, rfl, XWd.k47 hk2, by decide⟩ hh
  · refine lv_tableIn (off := 35) (tgt := 36) hx hb dX11_wordOf_1 (by rw [c1]; decide) (by rw [c1]; decide) (by rw [c1]; rfl) (by decide) ?_
    refine lv_aload_n hx hb dX11_wordOf_36 rfl (lv_at hl 0 rfl) ?_
    refine gX11_25 S hK hT ha kf_X11_73 dX11_wordOf_37 (fun hk3 => ?_)
    exact x_ra hx hb hr (by first | exact Or.inl ⟨_, rfl⟩ | exact Or.inr ⟨_, rfl⟩) (by first | exact Or.inl rfl | exact Or.inr ⟨_, rfl⟩) hlk hQ (Nat.le_of_ble_eq_true rfl) (Nat.le_of_ble_eq_true rfl) hS dX11_wordOf_40 () ⟨_, _, rfl, XWd.k49 hk3, by decide⟩ hh
  · refine lv_tableIn (off := 40) (tgt := 41) hx hb dX11_wordOf_1 (by rw [c1]; decide) (by rw [c1]; decide) (by rw [c1]; rfl) (by decide) ?_
    refine lv_aload_n hx hb dX11_wordOf_41 rfl (lv_at hl 0 rfl) ?_
    refine gX11_26 S hK hT ha kf_X11_76 dX11_wordOf_42 (fun hk4 => ?_)
    exact x_ra hx hb hr (by first | exact Or.inl ⟨_, rfl⟩ | exact Or.inr ⟨_, rfl⟩) (by first | exact Or.inl rfl | exact Or.inr ⟨_, rfl⟩) hlk hQ (Nat.le_of_ble_eq_true rfl) (Nat.le_of_ble_eq_true rfl) hS dX11_wordOf_45 () ⟨_, _, rfl, XWd.k49 hk4, by decide⟩ hh
  · refine lv_tableIn (off := 45) (tgt := 46) hx hb dX11_wordOf_1 (by rw [c1]; decide) (by rw [c1]; decide) (by rw [c1]; rfl) (by decide) ?_
    refine lv_aload_n hx hb dX11_wordOf_46 rfl (lv_at hl 0 rfl) ?_
    refine gX11_27 S hK hT ha kf_X11_79 dX11_wordOf_47 (fun hk5 => ?_)
    exact x_ra hx hb hr (by first | exact Or.inl ⟨_, rfl⟩ | exact Or.inr ⟨_, rfl⟩) (by first | exact Or.inl rfl | exact Or.inr ⟨_, rfl⟩) hlk hQ (Nat.le_of_ble_eq_true rfl) (Nat.le_of_ble_eq_true rfl) hS dX11_wordOf_50 () ⟨_, _, rfl, XWd.k48 hk5, by decide⟩ hh
  · refine lv_tableIn (off := 50) (tgt := 51) hx hb dX11_wordOf_1 (by rw [c1]; decide) (by rw [c1]; decide) (by rw [c1]; rfl) (by decide) ?_
    refine lv_aload_n hx hb dX11_wordOf_51 rfl (lv_at hl 0 rfl) ?_
    refine gX11_28 S hK hT ha kf_X11_82 dX11_wordOf_52 (fun hk6 => ?_)
    exact x_ra hx hb hr (by first | exact Or.inl ⟨_, rfl⟩ | exact Or.inr ⟨_, rfl⟩) (by first | exact Or.inl rfl | exact Or.inr ⟨_, rfl⟩) hlk hQ (Nat.le_of_ble_eq_true rfl) (Nat.le_of_ble_eq_true rfl) hS dX11_wordOf_55 () ⟨_, _, rfl, XWd.k46 hk6, by decide⟩ hh
  · refine lv_tableIn (off := 55) (tgt := 56) hx hb dX11_wordOf_1 (by rw [c1]; decide) (by rw [c1]; decide) (by rw [c1]; rfl) (by decide) ?_
    refine lv_aload_n hx hb dX11_wordOf_56 rfl (lv_at hl 0 rfl) ?_
    refine gX11_29 S hK hT ha kf_X11_85 dX11_wordOf_57 (fun hk7 => ?_)
    exact x_ra hx hb hr (by first | exact Or.inl ⟨_, rfl⟩ | exact Or.inr ⟨_, rfl⟩) (by first | exact Or.inl rfl | exact Or.inr ⟨_, rfl⟩) hlk hQ (Nat.le_of_ble_eq_true rfl) (Nat.le_of_ble_eq_true rfl) hS dX11_wordOf_60 () ⟨_, _, rfl, XWd.k48 hk7, by decide⟩ hh

theorem z_X11_failed_1 (a0 : Int) (h0 : a0 = 0) (r0 : -2147483648 ≤ a0 ∧ a0 < 2147483648) : 0 ≤ a0 := by omega
theorem z_X11_failed_2 (a0 : Int) (h0 : a0 = 0) (r0 : -2147483648 ≤ a0 ∧ a0 < 2147483648) : a0 + ((4 : Nat) : Int) ≤ 24 := by omega
theorem z_X11_failed_3 (a0 : Int) (a1 : Int) (h0 : a0 = 0) (h1 : a1 = a0 + ((4 : Nat) : Int)) (r0 : -2147483648 ≤ a0 ∧ a0 < 2147483648) (r1 : -2147483648 ≤ a1 ∧ a1 < 2147483648) : 0 ≤ a1 ∧ a1 ≤ 23 := by omega
theorem z_X11_failed_4 (a0 : Int) (a1 : Int) (a2 : Int) (h0 : a1 = 0) (h1 : a2 = a1 + ((4 : Nat) : Int)) (h2 : a0 = a2 + 1) (r0 : -2147483648 ≤ a0 ∧ a0 < 2147483648) (r1 : -2147483648 ≤ a1 ∧ a1 < 2147483648) (r2 : -2147483648 ≤ a2 ∧ a2 < 2147483648) : 0 ≤ a0 ∧ a0 ≤ 21 := by omega
theorem z_X11_failed_5 (a0 : Int) (a1 : Int) (a2 : Int) (a3 : Int) (h0 : a2 = 0) (h1 : a3 = a2 + ((4 : Nat) : Int)) (h2 : a0 = a3 + 1) (h3 : a0 + 1 ≤ a1 ∧ a1 ≤ a0 + 3) (r0 : -2147483648 ≤ a0 ∧ a0 < 2147483648) (r1 : -2147483648 ≤ a1 ∧ a1 < 2147483648) (r2 : -2147483648 ≤ a2 ∧ a2 < 2147483648) (r3 : -2147483648 ≤ a3 ∧ a3 < 2147483648) : 0 ≤ a1 ∧ a1 ≤ 23 := by omega
theorem z_X11_failed_6 (a0 : Int) (h0 : 0 ≤ a0 ∧ a0 ≤ 11) (r0 : -2147483648 ≤ a0 ∧ a0 < 2147483648) : 0 ≤ a0 ∧ a0 ≤ 11 := by omega
theorem z_X11_failed_7 (a0 : Int) (a1 : Int) (a2 : Int) (a3 : Int) (a4 : Int) (h0 : a3 = 0) (h1 : a4 = a3 + ((4 : Nat) : Int)) (h2 : a0 = a4 + 1) (h3 : a0 + 1 ≤ a1 ∧ a1 ≤ a0 + 3) (h4 : a2 = a1 + 1) (r0 : -2147483648 ≤ a0 ∧ a0 < 2147483648) (r1 : -2147483648 ≤ a1 ∧ a1 < 2147483648) (r2 : -2147483648 ≤ a2 ∧ a2 < 2147483648) (r3 : -2147483648 ≤ a3 ∧ a3 < 2147483648) (r4 : -2147483648 ≤ a4 ∧ a4 < 2147483648) : 0 ≤ a2 := by omega
theorem z_X11_failed_8 (a0 : Int) (a1 : Int) (a2 : Int) (a3 : Int) (a4 : Int) (a5 : Nat) (h0 : a3 = 0) (h1 : a4 = a3 + ((4 : Nat) : Int)) (h2 : a0 = a4 + 1) (h3 : a0 + 1 ≤ a1 ∧ a1 ≤ a0 + 3) (h4 : a2 = a1 + 1) (h5 : ((a5 : Nat) : Int) ≤ 6) (h6 : 3 ≤ ((a5 : Nat) : Int) ∧ ((a5 : Nat) : Int) ≤ 7) (r0 : -2147483648 ≤ a0 ∧ a0 < 2147483648) (r1 : -2147483648 ≤ a1 ∧ a1 < 2147483648) (r2 : -2147483648 ≤ a2 ∧ a2 < 2147483648) (r3 : -2147483648 ≤ a3 ∧ a3 < 2147483648) (r4 : -2147483648 ≤ a4 ∧ a4 < 2147483648) : a2 + ((a5 : Nat) : Int) ≤ 24 := by omega
theorem z_X11_failed_9 (a0 : Int) (a1 : Int) (a2 : Int) (a3 : Int) (a4 : Int) (a5 : Int) (a6 : Nat) (h0 : a3 = 0) (h1 : a5 = a3 + ((4 : Nat) : Int)) (h2 : a0 = a5 + 1) (h3 : a0 + 1 ≤ a1 ∧ a1 ≤ a0 + 3) (h4 : a2 = a1 + 1) (h5 : ((a6 : Nat) : Int) ≤ 6) (h6 : 3 ≤ ((a6 : Nat) : Int) ∧ ((a6 : Nat) : Int) ≤ 7) (h7 : a4 = a2 + ((a6 : Nat) : Int)) (r0 : -2147483648 ≤ a0 ∧ a0 < 2147483648) (r1 : -2147483648 ≤ a1 ∧ a1 < 2147483648) (r2 : -2147483648 ≤ a2 ∧ a2 < 2147483648) (r3 : -2147483648 ≤ a3 ∧ a3 < 2147483648) (r4 : -2147483648 ≤ a4 ∧ a4 < 2147483648) (r5 : -2147483648 ≤ a5 ∧ a5 < 2147483648) : 0 ≤ a4 ∧ a4 ≤ 23 := by omega
theorem z_X11_failed_10 (a0 : Int) (a1 : Int) (a2 : Int) (a3 : Int) (a4 : Int) (a5 : Int) (a6 : Int) (a7 : Nat) (h0 : a3 = 0) (h1 : a6 = a3 + ((4 : Nat) : Int)) (h2 : a0 = a6 + 1) (h3 : a0 + 1 ≤ a1 ∧ a1 ≤ a0 + 3) (h4 : a2 = a1 + 1) (h5 : ((a7 : Nat) : Int) ≤ 6) (h6 : 3 ≤ ((a7 : Nat) : Int) ∧ ((a7 : Nat) : Int) ≤ 7) (h7 : a4 = a2 + ((a7 : Nat) : Int)) (h8 : a5 = a4 + 1) (r0 : -2147483648 ≤ a0 ∧ a0 < 2147483648) (r1 : -2147483648 ≤ a1 ∧ a1 < 2147483648) (r2 : -2147483648 ≤ a2 ∧ a2 < 2147483648) (r3 : -2147483648 ≤ a3 ∧ a3 < 2147483648) (r4 : -2147483648 ≤ a4 ∧ a4 < 2147483648) (r5 : -2147483648 ≤ a5 ∧ a5 < 2147483648) (r6 : -2147483648 ≤ a6 ∧ a6 < 2147483648) : 0 ≤ a5 ∧ a5 ≤ 21 := by omega
theorem z_X11_failed_11 (a0 : Int) (a1 : Int) (a2 : Int) (a3 : Int) (a4 : Int) (a5 : Int) (a6 : Int) (a7 : Int) (a8 : Nat) (h0 : a3 = 0) (h1 : a7 = a3 + ((4 : Nat) : Int)) (h2 : a0 = a7 + 1) (h3 : a0 + 1 ≤ a1 ∧ a1 ≤ a0 + 3) (h4 : a2 = a1 + 1) (h5 : ((a8 : Nat) : Int) ≤ 6) (h6 : 3 ≤ ((a8 : Nat) : Int) ∧ ((a8 : Nat) : Int) ≤ 7) (h7 : a4 = a2 + ((a8 : Nat) : Int)) (h8 : a5 = a4 + 1) (h9 : a5 + 1 ≤ a6 ∧ a6 ≤ a5 + 3) (r0 : -2147483648 ≤ a0 ∧ a0 < 2147483648) (r1 : -2147483648 ≤ a1 ∧ a1 < 2147483648) (r2 : -2147483648 ≤ a2 ∧ a2 < 2147483648) (r3 : -2147483648 ≤ a3 ∧ a3 < 2147483648) (r4 : -2147483648 ≤ a4 ∧ a4 < 2147483648) (r5 : -2147483648 ≤ a5 ∧ a5 < 2147483648) (r6 : -2147483648 ≤ a6 ∧ a6 < 2147483648) (r7 : -2147483648 ≤ a7 ∧ a7 < 2147483648) : 0 ≤ a6 ∧ a6 ≤ 24 := by omega
abbrev rm_X11_failed : Room := { frames := 2, cells := 0, slots := 0, locals := 43 }
set_option maxHeartbeats 4000000 in
set_option maxRecDepth 100000 in
theorem c_X11_failed (l : Launch) (E : XE) (K : Nat → Nat) (F : Nat → Nat → Nat) (tl z0 z1 z2 z3 z4 z5 z6 z7 z8 z9 z10 z11 z12 z13 z14 z15 z16 z17 z18 z19 z20 : Int32) (ar0 ar1 ar2 ar3 ar4 ar5 ar6 ar7 ar8 ar9 ar10 : Nat → Int32) (a : Nat) (p0 : Int32) (p1 : Int32) (ha : K a = 13) (e0 : 0 ≤ p0.toInt ∧ p0.toInt ≤ 11) : Met l yX11_failed (xw yX11_failed cX11_failed 3 none) rm_X11_failed (va_Pc [.ref a, .int p0, .int p1] (XP E K F (tl, [z0, z1, z2, z3, z4, z5, z6, z7, z8, z9, z10, z11, z12, z13, z14, z15, z16, z17, z18, z19, z20], [ar0, ar1, ar2, ar3, ar4, ar5, ar6, ar7, ar8, ar9, ar10]))) (XQv E (fun (u : Int32 × Int32 × Int32) => (0 ≤ u.2.2.toInt ∧ u.2.2.toInt ≤ 24)) (fun u H => TW E K F (tl, [z0, z1, z2, z3, z4, u.1, u.2.1, u.2.2, z8, z9, z10, z11, z12, z13, z14, z15, z16, z17, z18, z19, z20], [ar0, ar1, ar2, ar3, ar4, ar5, ar6, ar7, ar8, ar9, ar10]) [] H)) 0 0 (xA E) := by
  refine x_enter (by decide) (Nat.le_of_ble_eq_true rfl) ?_
  intro p e s m args below meth c Q S hr hlk hnm hQ hP ls hl
  obtain ⟨hz, hK, hT⟩ := hP
  obtain ⟨hx, hb, -, -, -⟩ := id S
  obtain ⟨H, hT, hS, hgo⟩ : ∃ H : Heap, TW E K F (tl, [z0, z1, z2, z3, z4, z5, z6, z7, z8, z9, z10, z11, z12, z13, z14, z15, z16, z17, z18, z19, z20], [ar0, ar1, ar2, ar3, ar4, ar5, ar6, ar7, ar8, ar9, ar10]) [] H ∧ va_S (xA E) s.heap H [] ∧ H = s.heap := ⟨_, hT, va_S.rf, rfl⟩
  rw [← hgo]
  have hl : lv_has ls 3 [(0, .ref a), (1, .int p0), (2, .int p1)] := hl
  refine lv_aload_n hx hb dX11_failed_0 rfl (lv_at hl 0 rfl) ?_
  refine x_cv0 (x_runV (b := a) (As := []) (rest := []) S (c_X11_nothing l E K F tl z0 z1 z2 z3 z4 z5 z6 z7 z8 z9 z10 z11 z12 z13 z14 z15 z16 z17 z18 z19 z20 ar0 ar1 ar2 ar3 ar4 ar5 ar6 ar7 ar8 ar9 ar10 a ha) mv_X11_nothing km_X11_231 rfl rfl ⟨Nat.le_of_ble_eq_true rfl, Nat.le_of_ble_eq_true rfl⟩ (rc_13 hK hT ha) hK (fun _ => XP.blind) (fun U hU hW => XP.at hK hz hS hT hU hW) rfl hl.1 (Nat.le_of_ble_eq_true rfl) dX11_failed_1 ⟨Nat.le_of_ble_eq_true rfl, Nat.le_of_ble_eq_true rfl⟩) hS ?_
  rintro ⟨u1, u2, u3⟩ H locs t4 hT hS
  have hT : TW E K F (tl, [z0, z1, z2, z3, z4, u1, u2, u3, z8, z9, z10, z11, z12, z13, z14, z15, z16, z17, z18, z19, z20], [ar0, ar1, ar2, ar3, ar4, ar5, ar6, ar7, ar8, ar9, ar10]) [] H := hT
  have t4 : u3.toInt = 0 := t4
  refine lv_aload_n hx hb dX11_failed_4 rfl (lv_at hl 0 rfl) ?_
  refine lv_iload_n hx hb dX11_failed_5 rfl (lv_at hl 1 rfl) ?_
  refine pX11_20 (kq := []) (v := p0) S hK hT hS ha kf_X11_58 (Nat.le_of_ble_eq_true rfl) dX11_failed_6 (fun _ h => by cases h) (fun H locs hT hS => ?_)
  have hT : TW E K F (tl, [z0, z1, z2, z3, z4, p0, u2, u3, z8, z9, z10, z11, z12, z13, z14, z15, z16, z17, z18, z19, z20], [ar0, ar1, ar2, ar3, ar4, ar5, ar6, ar7, ar8, ar9, ar10]) [] H := hT
  refine lv_aload_n hx hb dX11_failed_9 rfl (lv_at hl 0 rfl) ?_
  refine lv_iload_n hx hb dX11_failed_10 rfl (lv_at hl 2 rfl) ?_
  refine pX11_21 (kq := []) (v := p1) S hK hT hS ha kf_X11_62 (Nat.le_of_ble_eq_true rfl) dX11_failed_11 (fun _ h => by cases h) (fun H locs hT hS => ?_)
  have hT : TW E K F (tl, [z0, z1, z2, z3, z4, p0, p1, u3, z8, z9, z10, z11, z12, z13, z14, z15, z16, z17, z18, z19, z20], [ar0, ar1, ar2, ar3, ar4, ar5, ar6, ar7, ar8, ar9, ar10]) [] H := hT
  refine lv_aload_n hx hb dX11_failed_14 rfl (lv_at hl 0 rfl) ?_
  refine lv_aload_n hx hb dX11_failed_15 rfl (lv_at hl 0 rfl) ?_
  refine gX11_24 S hK hT ha kf_X11_69 dX11_failed_16 (fun hk7 => ?_)
  refine x_cv0 (x_runV (b := a) (As := [.ref (F a 24)]) (rest := []) S (c_X11_putWord l E K F tl z0 z1 z2 z3 z4 p0 p1 u3 z8 z9 z10 z11 z12 z13 z14 z15 z16 z17 z18 z19 z20 ar0 ar1 ar2 ar3 ar4 ar5 ar6 ar7 ar8 ar9 ar10 a (F a 24) 4 ha (XWd.k47 hk7) (z_X11_failed_1 u3.toInt t4 (xr u3)) (z_X11_failed_2 u3.toInt t4 (xr u3))) mv_X11_putWord km_X11_234 rfl rfl ⟨Nat.le_of_ble_eq_true rfl, Nat.le_of_ble_eq_true rfl⟩ (rc_13 hK hT ha) hK (fun _ => XP.blind) (fun U hU hW => XP.at hK hz hS hT hU hW) rfl hl.1 (Nat.le_of_ble_eq_true rfl) dX11_failed_19 ⟨Nat.le_of_ble_eq_true rfl, Nat.le_of_ble_eq_true rfl⟩) hS ?_
  rintro u8 H locs t9 hT hS
  have hT : TW E K F (tl, [z0, z1, z2, z3, z4, p0, p1, u8, z8, z9, z10, z11, z12, z13, z14, z15, z16, z17, z18, z19, z20], [ar0, ar1, ar2, ar3, ar4, ar5, ar6, ar7, ar8, ar9, ar10]) [] H := hT
  have t9 : u8.toInt = u3.toInt + ((4 : Nat) : Int) := t9
  refine lv_aload_n hx hb dX11_failed_22 rfl (lv_at hl 0 rfl) ?_
  refine lv_bipush (v := 32) hx hb dX11_failed_23 (by decide) ?_
  refine x_cv0 (x_runV (b := a) (As := [.int 32]) (rest := []) S (c_X11_puts l E K F tl z0 z1 z2 z3 z4 p0 p1 u8 z8 z9 z10 z11 z12 z13 z14 z15 z16 z17 z18 z19 z20 ar0 ar1 ar2 ar3 ar4 ar5 ar6 ar7 ar8 ar9 ar10 a 32 ha (z_X11_failed_3 u3.toInt u8.toInt t4 t9 (xr u3) (xr u8))) mv_X11_puts km_X11_227 rfl rfl ⟨Nat.le_of_ble_eq_true rfl, Nat.le_of_ble_eq_true rfl⟩ (rc_13 hK hT ha) hK (fun _ => XP.blind) (fun U hU hW => XP.at hK hz hS hT hU hW) rfl hl.1 (Nat.le_of_ble_eq_true rfl) dX11_failed_25 ⟨Nat.le_of_ble_eq_true rfl, Nat.le_of_ble_eq_true rfl⟩) hS ?_
  rintro u12 H locs t13 hT hS
  have hT : TW E K F (tl, [z0, z1, z2, z3, z4, p0, p1, u12, z8, z9, z10, z11, z12, z13, z14, z15, z16, z17, z18, z19, z20], [ar0, ar1, ar2, ar3, ar4, ar5, ar6, ar7, ar8, ar9, ar10]) [] H := hT
  have t13 : u12.toInt = u8.toInt + 1 := t13
  refine lv_aload_n hx hb dX11_failed_28 rfl (lv_at hl 0 rfl) ?_
  refine lv_iload_n hx hb dX11_failed_29 rfl (lv_at hl 1 rfl) ?_
  refine x_cv0 (x_runV (b := a) (As := [.int p0]) (rest := []) S (c_X11_putNumber l E K F tl z0 z1 z2 z3 z4 p0 p1 u12 z8 z9 z10 z11 z12 z13 z14 z15 z16 z17 z18 z19 z20 ar0 ar1 ar2 ar3 ar4 ar5 ar6 ar7 ar8 ar9 ar10 a p0 ha (z_X11_failed_4 u12.toInt u3.toInt u8.toInt t4 t9 t13 (xr u12) (xr u3) (xr u8))) mv_X11_putNumber km_X11_238 rfl rfl ⟨Nat.le_of_ble_eq_true rfl, Nat.le_of_ble_eq_true rfl⟩ (rc_13 hK hT ha) hK (fun _ => XP.blind) (fun U hU hW => XP.at hK hz hS hT hU hW) rfl hl.1 (Nat.le_of_ble_eq_true rfl) dX11_failed_30 ⟨Nat.le_of_ble_eq_true rfl, Nat.le_of_ble_eq_true rfl⟩) hS ?_
  rintro u16 H locs t17 hT hS
  have hT : TW E K F (tl, [z0, z1, z2, z3, z4, p0, p1, u16, z8, z9, z10, z11, z12, z13, z14, z15, z16, z17, z18, z19, z20], [ar0, ar1, ar2, ar3, ar4, ar5, ar6, ar7, ar8, ar9, ar10]) [] H := hT
  have t17 : u12.toInt + 1 ≤ u16.toInt ∧ u16.toInt ≤ u12.toInt + 3 := t17
  refine lv_aload_n hx hb dX11_failed_33 rfl (lv_at hl 0 rfl) ?_
  refine lv_bipush (v := 32) hx hb dX11_failed_34 (by decide) ?_
  refine x_cv0 (x_runV (b := a) (As := [.int 32]) (rest := []) S (c_X11_puts l E K F tl z0 z1 z2 z3 z4 p0 p1 u16 z8 z9 z10 z11 z12 z13 z14 z15 z16 z17 z18 z19 z20 ar0 ar1 ar2 ar3 ar4 ar5 ar6 ar7 ar8 ar9 ar10 a 32 ha (z_X11_failed_5 u12.toInt u16.toInt u3.toInt u8.toInt t4 t9 t13 t17 (xr u12) (xr u16) (xr u3) (xr u8))) mv_X11_puts km_X11_227 rfl rfl ⟨Nat.le_of_ble_eq_true rfl, Nat.le_of_ble_eq_true rfl⟩ (rc_13 hK hT ha) hK (fun _ => XP.blind) (fun U hU hW => XP.at hK hz hS hT hU hW) rfl hl.1 (Nat.le_of_ble_eq_true rfl) dX11_failed_36 ⟨Nat.le_of_ble_eq_true rfl, Nat.le_of_ble_eq_true rfl⟩) hS ?_
  rintro u20 H locs t21 hT hS
  have hT : TW E K F (tl, [z0, z1, z2, z3, z4, p0, p1, u20, z8, z9, z10, z11, z12, z13, z14, z15, z16, z17, z18, z19, z20], [ar0, ar1, ar2, ar3, ar4, ar5, ar6, ar7, ar8, ar9, ar10]) [] H := hT
  have t21 : u20.toInt = u16.toInt + 1 := t21
  refine lv_aload_n hx hb dX11_failed_39 rfl (lv_at hl 0 rfl) ?_
  refine lv_aload_n hx hb dX11_failed_40 rfl (lv_at hl 0 rfl) ?_
  refine lv_aload_n hx hb dX11_failed_41 rfl (lv_at hl 0 rfl) ?_
  refine lv_iload_n hx hb dX11_failed_42 rfl (lv_at hl 1 rfl) ?_
  refine lv_iconst (v := 0) hx hb dX11_failed_43 (by decide) ?_
  refine x_clp (x_runV (b := a) (As := [.int p0, .int 0]) (rest := [.ref a, .ref a]) S (c_X11_of l E K F tl z0 z1 z2 z3 z4 p0 p1 u20 z8 z9 z10 z11 z12 z13 z14 z15 z16 z17 z18 z19 z20 ar0 ar1 ar2 ar3 ar4 ar5 ar6 ar7 ar8 ar9 ar10 H a p0 0 ha (z_X11_failed_6 p0.toInt e0 (xr p0)) (by decide)) mv_X11_of km_X11_165 rfl rfl ⟨Nat.le_of_ble_eq_true rfl, Nat.le_of_ble_eq_true rfl⟩ (rc_13 hK hT ha) hK (fun _ => XPh.blind) (fun U hU hW => XPh.at hK hz hS hT hU hW) rfl hl.1 (Nat.le_of_ble_eq_true rfl) dX11_failed_44 ⟨Nat.le_of_ble_eq_true rfl, Nat.le_of_ble_eq_true rfl⟩) hS ?_
  rintro _ _ locs ⟨x25, rfl, t24⟩ hS
  have t24 : x25.toInt = (aI ar1 (10 * p0.toInt + (0 : Int))) := t24
  refine x_clp (x_runV (b := a) (As := [.int x25]) (rest := [.ref a]) S (c_X11_wordOf l E K F tl z0 z1 z2 z3 z4 p0 p1 u20 z8 z9 z10 z11 z12 z13 z14 z15 z16 z17 z18 z19 z20 ar0 ar1 ar2 ar3 ar4 ar5 ar6 ar7 ar8 ar9 ar10 H a x25 ha) mv_X11_wordOf km_X11_241 rfl rfl ⟨Nat.le_of_ble_eq_true rfl, Nat.le_of_ble_eq_true rfl⟩ (rc_13 hK hT ha) hK (fun _ => XPh.blind) (fun U hU hW => XPh.at hK hz hS hT hU hW) rfl hl.1 (Nat.le_of_ble_eq_true rfl) dX11_failed_47 ⟨Nat.le_of_ble_eq_true rfl, Nat.le_of_ble_eq_true rfl⟩) hS ?_
  rintro _ _ locs ⟨q30, n29, rfl, hk31, t32⟩ hS
  refine x_cv0 (x_runV (b := a) (As := [.ref q30]) (rest := []) S (c_X11_putWord l E K F tl z0 z1 z2 z3 z4 p0 p1 u20 z8 z9 z10 z11 z12 z13 z14 z15 z16 z17 z18 z19 z20 ar0 ar1 ar2 ar3 ar4 ar5 ar6 ar7 ar8 ar9 ar10 a q30 n29 ha hk31 (z_X11_failed_7 u12.toInt u16.toInt u20.toInt u3.toInt u8.toInt t4 t9 t13 t17 t21 (xr u12) (xr u16) (xr u20) (xr u3) (xr u8)) (z_X11_failed_8 u12.toInt u16.toInt u20.toInt u3.toInt u8.toInt n29 t4 t9 t13 t17 t21 t32 (XWd.lim hk31) (xr u12) (xr u16) (xr u20) (xr u3) (xr u8))) mv_X11_putWord km_X11_234 rfl rfl ⟨Nat.le_of_ble_eq_true rfl, Nat.le_of_ble_eq_true rfl⟩ (rc_13 hK hT ha) hK (fun _ => XP.blind) (fun U hU hW => XP.at hK hz hS hT hU hW) rfl hl.1 (Nat.le_of_ble_eq_true rfl) dX11_failed_50 ⟨Nat.le_of_ble_eq_true rfl, Nat.le_of_ble_eq_true rfl⟩) hS ?_
  rintro u33 H locs t34 hT hS
  have hT : TW E K F (tl, [z0, z1, z2, z3, z4, p0, p1, u33, z8, z9, z10, z11, z12, z13, z14, z15, z16, z17, z18, z19, z20], [ar0, ar1, ar2, ar3, ar4, ar5, ar6, ar7, ar8, ar9, ar10]) [] H := hT
  have t34 : u33.toInt = u20.toInt + (((n29) : Nat) : Int) := t34
  refine lv_aload_n hx hb dX11_failed_53 rfl (lv_at hl 0 rfl) ?_
  refine lv_bipush (v := 32) hx hb dX11_failed_54 (by decide) ?_
  refine x_cv0 (x_runV (b := a) (As := [.int 32]) (rest := []) S (c_X11_puts l E K F tl z0 z1 z2 z3 z4 p0 p1 u33 z8 z9 z10 z11 z12 z13 z14 z15 z16 z17 z18 z19 z20 ar0 ar1 ar2 ar3 ar4 ar5 ar6 ar7 ar8 ar9 ar10 a 32 ha (z_X11_failed_9 u12.toInt u16.toInt u20.toInt u3.toInt u33.toInt u8.toInt n29 t4 t9 t13 t17 t21 t32 (XWd.lim hk31) t34 (xr u12) (xr u16) (xr u20) (xr u3) (xr u33) (xr u8))) mv_X11_puts km_X11_227 rfl rfl ⟨Nat.le_of_ble_eq_true rfl, Nat.le_of_ble_eq_true rfl⟩ (rc_13 hK hT ha) hK (fun _ => XP.blind) (fun U hU hW => XP.at hK hz hS hT hU hW) rfl hl.1 (Nat.le_of_ble_eq_true rfl) dX11_failed_56 ⟨Nat.le_of_ble_eq_true rfl, Nat.le_of_ble_eq_true rfl⟩) hS ?_
  rintro u37 H locs t38 hT hS
  have hT : TW E K F (tl, [z0, z1, z2, z3, z4, p0, p1, u37, z8, z9, z10, z11, z12, z13, z14, z15, z16, z17, z18, z19, z20], [ar0, ar1, ar2, ar3, ar4, ar5, ar6, ar7, ar8, ar9, ar10]) [] H := hT
  have t38 : u37.toInt = u33.toInt + 1 := t38
  refine lv_aload_n hx hb dX11_failed_59 rfl (lv_at hl 0 rfl) ?_
  refine lv_iload_n hx hb dX11_failed_60 rfl (lv_at hl 2 rfl) ?_
  refine x_cv0 (x_runV (b := a) (As := [.int p1]) (rest := []) S (c_X11_putNumber l E K F tl z0 z1 z2 z3 z4 p0 p1 u37 z8 z9 z10 z11 z12 z13 z14 z15 z16 z17 z18 z19 z20 ar0 ar1 ar2 ar3 ar4 ar5 ar6 ar7 ar8 ar9 ar10 a p1 ha (z_X11_failed_10 u12.toInt u16.toInt u20.toInt u3.toInt u33.toInt u37.toInt u8.toInt n29 t4 t9 t13 t17 t21 t32 (XWd.lim hk31) t34 t38 (xr u12) (xr u16) (xr u20) (xr u3) (xr u33) (xr u37) (xr u8))) mv_X11_putNumber km_X11_238 rfl rfl ⟨Nat.le_of_ble_eq_true rfl, Nat.le_of_ble_eq_true rfl⟩ (rc_13 hK hT ha) hK (fun _ => XP.blind) (fun U hU hW => XP.at hK hz hS hT hU hW) rfl hl.1 (Nat.le_of_ble_eq_true rfl) dX11_failed_61 ⟨Nat.le_of_ble_eq_true rfl, Nat.le_of_ble_eq_true rfl⟩) hS ?_
  rintro u41 H locs t42 hT hS
  have hT : TW E K F (tl, [z0, z1, z2, z3, z4, p0, p1, u41, z8, z9, z10, z11, z12, z13, z14, z15, z16, z17, z18, z19, z20], [ar0, ar1, ar2, ar3, ar4, ar5, ar6, ar7, ar8, ar9, ar10]) [] H := hT
  have t42 : u37.toInt + 1 ≤ u41.toInt ∧ u41.toInt ≤ u37.toInt + 3 := t42
  exact x_rv hx hb hr hlk hQ (Nat.le_of_ble_eq_true rfl) (Nat.le_of_ble_eq_true rfl) hS dX11_failed_64 (p0, p1, u41) (z_X11_failed_11 u12.toInt u16.toInt u20.toInt u3.toInt u33.toInt u37.toInt u41.toInt u8.toInt n29 t4 t9 t13 t17 t21 t32 (XWd.lim hk31) t34 t38 t42 (xr u12) (xr u16) (xr u20) (xr u3) (xr u33) (xr u37) (xr u41) (xr u8)) hT.nil

abbrev rm_X11_verdict : Room := { frames := 0, cells := 0, slots := 0, locals := 0 }
set_option maxHeartbeats 4000000 in
set_option maxRecDepth 100000 in
theorem c_X11_verdict (l : Launch) (E : XE) (K : Nat → Nat) (F : Nat → Nat → Nat) (tl z0 z1 z2 z3 z4 z5 z6 z7 z8 z9 z10 z11 z12 z13 z14 z15 z16 z17 z18 z19 z20 : Int32) (ar0 ar1 ar2 ar3 ar4 ar5 ar6 ar7 ar8 ar9 ar10 : Nat → Int32) (a : Nat) (p0 : Int32) (ha : K a = 13) : Met l yX11_verdict (xw yX11_verdict cX11_verdict 2 (some .int)) rm_X11_verdict (va_Pc [.ref a, .int p0] (XP E K F (tl, [z0, z1, z2, z3, z4, z5, z6, z7, z8, z9, z10, z11, z12, z13, z14, z15, z16, z17, z18, z19, z20], [ar0, ar1, ar2, ar3, ar4, ar5, ar6, ar7, ar8, ar9, ar10]))) (XQ E (fun v (u : Int32) => ∃ r : Int32, v = .int r) (fun u H => TW E K F (tl, [u, z1, z2, z3, z4, z5, z6, z7, z8, z9, z10, z11, z12, z13, z14, z15, z16, z17, z18, z19, z20], [ar0, ar1, ar2, ar3, ar4, ar5, ar6, ar7, ar8, ar9, ar10]) [] H)) 0 0 (xA E) := by
  refine x_enter (by decide) (Nat.le_of_ble_eq_true rfl) ?_
  intro p e s m args below meth c Q S hr hlk hnm hQ hP ls hl
  obtain ⟨hz, hK, hT⟩ := hP
  obtain ⟨hx, hb, -, -, -⟩ := id S
  obtain ⟨H, hT, hS, hgo⟩ : ∃ H : Heap, TW E K F (tl, [z0, z1, z2, z3, z4, z5, z6, z7, z8, z9, z10, z11, z12, z13, z14, z15, z16, z17, z18, z19, z20], [ar0, ar1, ar2, ar3, ar4, ar5, ar6, ar7, ar8, ar9, ar10]) [] H ∧ va_S (xA E) s.heap H [] ∧ H = s.heap := ⟨_, hT, va_S.rf, rfl⟩
  rw [← hgo]
  have hl : lv_has ls 2 [(0, .ref a), (1, .int p0)] := hl
  refine lv_aload_n hx hb dX11_verdict_0 rfl (lv_at hl 0 rfl) ?_
  refine lv_iconst (v := 0) hx hb dX11_verdict_1 (by decide) ?_
  refine pX11_0 (kq := []) (v := 0) S hK hT hS ha kf_X11_134 (Nat.le_of_ble_eq_true rfl) dX11_verdict_2 (fun _ h => by cases h) (fun H locs hT hS => ?_)
  have hT : TW E K F (tl, [0, z1, z2, z3, z4, z5, z6, z7, z8, z9, z10, z11, z12, z13, z14, z15, z16, z17, z18, z19, z20], [ar0, ar1, ar2, ar3, ar4, ar5, ar6, ar7, ar8, ar9, ar10]) [] H := hT
  refine lv_iload_n hx hb dX11_verdict_5 rfl (lv_at hl 1 rfl) ?_
  refine xi_zne (tgt := 16) hx hb (rfl : Int32.toInt p0 = p0.toInt) dX11_verdict_6 (by decide) (fun c1 => ?_) (fun c1 => ?_)
  · refine lv_iload_n hx hb dX11_verdict_16 rfl (lv_at hl 1 rfl) ?_
    refine lv_iconst (v := 1) hx hb dX11_verdict_17 (by decide) ?_
    refine xi_cne (tgt := 28) hx hb (rfl : Int32.toInt p0 = p0.toInt) ((by decide) : Int32.toInt 1 = (1 : Int)) dX11_verdict_18 (by decide) (fun c2 => ?_) (fun c2 => ?_)
    · refine lv_iload_n hx hb dX11_verdict_28 rfl (lv_at hl 1 rfl) ?_
      refine lv_iconst (v := 2) hx hb dX11_verdict_29 (by decide) ?_
      refine xi_cne (tgt := 40) hx hb (rfl : Int32.toInt p0 = p0.toInt) ((by decide) : Int32.toInt 2 = (2 : Int)) dX11_verdict_30 (by decide) (fun c3 => ?_) (fun c3 => ?_)
      · refine lv_ldc (v := (-2147483648)) hx hb S.2.2.2.1 (S.2.2.2.2 _ (List.mem_cons_of_mem _ kc_X11_57)) dX11_verdict_40 ?_
        exact x_ri hx hb hr hlk hQ (Nat.le_of_ble_eq_true rfl) (Nat.le_of_ble_eq_true rfl) hS dX11_verdict_42 (0) ⟨_, rfl⟩ hT.nil
      · refine lv_aload_n hx hb dX11_verdict_33 rfl (lv_at hl 0 rfl) ?_
        refine gX11_23 S hK hT ha kf_X11_224 dX11_verdict_34 (v := z7) rfl ?_
        refine lv_goto (tgt := 42) hx hb dX11_verdict_37 (by decide) ?_
        exact x_ri hx hb hr hlk hQ (Nat.le_of_ble_eq_true rfl) (Nat.le_of_ble_eq_true rfl) hS dX11_verdict_42 (0) ⟨_, rfl⟩ hT.nil
    · refine lv_aload_n hx hb dX11_verdict_21 rfl (lv_at hl 0 rfl) ?_
      refine gX11_21 S hK hT ha kf_X11_62 dX11_verdict_22 (v := z6) rfl ?_
      refine lv_goto (tgt := 42) hx hb dX11_verdict_25 (by decide) ?_
      exact x_ri hx hb hr hlk hQ (Nat.le_of_ble_eq_true rfl) (Nat.le_of_ble_eq_true rfl) hS dX11_verdict_42 (0) ⟨_, rfl⟩ hT.nil
  · refine lv_aload_n hx hb dX11_verdict_9 rfl (lv_at hl 0 rfl) ?_
    refine gX11_20 S hK hT ha kf_X11_58 dX11_verdict_10 (v := z5) rfl ?_
    refine lv_goto (tgt := 42) hx hb dX11_verdict_13 (by decide) ?_
    exact x_ri hx hb hr hlk hQ (Nat.le_of_ble_eq_true rfl) (Nat.le_of_ble_eq_true rfl) hS dX11_verdict_42 (0) ⟨_, rfl⟩ hT.nil

theorem z_X11_letter_1 (a0 : Int) (h0 : 0 ≤ a0 ∧ a0 ≤ 24) (r0 : -2147483648 ≤ a0 ∧ a0 < 2147483648) : -2147483648 ≤ a0 ∧ a0 < 2147483648 := by omega
theorem z_X11_letter_2 (a0 : Int) (a1 : Int) (a2 : Int) (h0 : 0 ≤ a2 ∧ a2 ≤ 24) (h1 : (a1 = 1 ∧ (0 : Int) ≤ a0 ∧ a0 ≤ (a2 - (1 : Int))) ∨ (a1 = 0 ∧ (a0 < (0 : Int) ∨ (a2 - (1 : Int)) < a0))) (h2 : ¬ (a1 = 0)) (r0 : -2147483648 ≤ a0 ∧ a0 < 2147483648) (r1 : -2147483648 ≤ a1 ∧ a1 < 2147483648) (r2 : -2147483648 ≤ a2 ∧ a2 < 2147483648) : 0 ≤ a0 ∧ a0 < ((24 : Nat) : Int) := by first | (clear h2; omega) | omega
abbrev rm_X11_letter : Room := { frames := 1, cells := 0, slots := 0, locals := 25 }
set_option maxHeartbeats 4000000 in
set_option maxRecDepth 100000 in
theorem c_X11_letter (l : Launch) (E : XE) (K : Nat → Nat) (F : Nat → Nat → Nat) (tl z0 z1 z2 z3 z4 z5 z6 z7 z8 z9 z10 z11 z12 z13 z14 z15 z16 z17 z18 z19 z20 : Int32) (ar0 ar1 ar2 ar3 ar4 ar5 ar6 ar7 ar8 ar9 ar10 : Nat → Int32) (a : Nat) (p0 : Int32) (ha : K a = 13) (e0 : 0 ≤ z7.toInt ∧ z7.toInt ≤ 24) : Met l yX11_letter (xw yX11_letter cX11_letter 2 (some .int)) rm_X11_letter (va_Pc [.ref a, .int p0] (XP E K F (tl, [z0, z1, z2, z3, z4, z5, z6, z7, z8, z9, z10, z11, z12, z13, z14, z15, z16, z17, z18, z19, z20], [ar0, ar1, ar2, ar3, ar4, ar5, ar6, ar7, ar8, ar9, ar10]))) (XQ E (fun v (u : Int32) => ∃ r : Int32, v = .int r) (fun u H => TW E K F (tl, [u, z1, z2, z3, z4, z5, z6, z7, z8, z9, z10, z11, z12, z13, z14, z15, z16, z17, z18, z19, z20], [ar0, ar1, ar2, ar3, ar4, ar5, ar6, ar7, ar8, ar9, ar10]) [] H)) 0 0 (xA E) := by
  refine x_enter (by decide) (Nat.le_of_ble_eq_true rfl) ?_
  intro p e s m args below meth c Q S hr hlk hnm hQ hP ls hl
  obtain ⟨hz, hK, hT⟩ := hP
  obtain ⟨hx, hb, -, -, -⟩ := id S
  obtain ⟨H, hT, hS, hgo⟩ : ∃ H : Heap, TW E K F (tl, [z0, z1, z2, z3, z4, z5, z6, z7, z8, z9, z10, z11, z12, z13, z14, z15, z16, z17, z18, z19, z20], [ar0, ar1, ar2, ar3, ar4, ar5, ar6, ar7, ar8, ar9, ar10]) [] H ∧ va_S (xA E) s.heap H [] ∧ H = s.heap := ⟨_, hT, va_S.rf, rfl⟩
  rw [← hgo]
  have hl : lv_has ls 2 [(0, .ref a), (1, .int p0)] := hl
  refine lv_aload_n hx hb dX11_letter_0 rfl (lv_at hl 0 rfl) ?_
  refine lv_iconst (v := 0) hx hb dX11_letter_1 (by decide) ?_
  refine pX11_0 (kq := []) (v := 0) S hK hT hS ha kf_X11_134 (Nat.le_of_ble_eq_true rfl) dX11_letter_2 (fun _ h => by cases h) (fun H locs hT hS => ?_)
  have hT : TW E K F (tl, [0, z1, z2, z3, z4, z5, z6, z7, z8, z9, z10, z11, z12, z13, z14, z15, z16, z17, z18, z19, z20], [ar0, ar1, ar2, ar3, ar4, ar5, ar6, ar7, ar8, ar9, ar10]) [] H := hT
  refine lv_iload_n hx hb dX11_letter_5 rfl (lv_at hl 1 rfl) ?_
  refine lv_i2l (v := p0.toInt64) hx hb dX11_letter_6 rfl ?_
  refine lv_lconst (v := (0 : Int64)) hx hb dX11_letter_7 (by decide) ?_
  refine lv_aload_n hx hb dX11_letter_8 rfl (lv_at hl 0 rfl) ?_
  refine gX11_23 S hK hT ha kf_X11_224 dX11_letter_9 (v := z7) rfl ?_
  refine lv_i2l (v := z7.toInt64) hx hb dX11_letter_12 rfl ?_
  refine lv_lconst (v := (1 : Int64)) hx hb dX11_letter_13 (by decide) ?_
  refine lv_lsub hx hb dX11_letter_14 (lv_topl (fun y1 hy2 => ?_))
  have hy2 : y1.toInt = z7.toInt - (1 : Int) := xl_sub (xl_i2l (rfl : Int32.toInt z7 = z7.toInt)) (by decide) (z_X11_letter_1 z7.toInt e0 (xr z7)) (by decide) hy2
  refine x_clp (x_runS (As := [.long p0.toInt64, .long (0 : Int64), .long y1]) (rest := []) S (c_X11_in l E K F tl 0 z1 z2 z3 z4 z5 z6 z7 z8 z9 z10 z11 z12 z13 z14 z15 z16 z17 z18 z19 z20 ar0 ar1 ar2 ar3 ar4 ar5 ar6 ar7 ar8 ar9 ar10 H p0.toInt64 (0 : Int64) y1 p0.toInt (0 : Int) (z7.toInt - (1 : Int)) (xl_i2l (rfl : Int32.toInt p0 = p0.toInt)) (by decide) hy2) ms_X11_in km_X11_139 rfl rfl ⟨Nat.le_of_ble_eq_true rfl, Nat.le_of_ble_eq_true rfl⟩ hK (fun _ => XPh.blind) (fun U hU hW => XPh.at hK hz hS hT hU hW) rfl hl.1 (Nat.le_of_ble_eq_true rfl) dX11_letter_15 ⟨Nat.le_of_ble_eq_true rfl, Nat.le_of_ble_eq_true rfl⟩) hS ?_
  rintro _ _ locs ⟨x3, rfl, b4, t5⟩ hS
  have t5 : (x3.toInt = 1 ∧ (0 : Int) ≤ p0.toInt ∧ p0.toInt ≤ (z7.toInt - (1 : Int))) ∨ (x3.toInt = 0 ∧ (p0.toInt < (0 : Int) ∨ (z7.toInt - (1 : Int)) < p0.toInt)) := t5
  refine xi_zeq (tgt := 30) hx hb (rfl : Int32.toInt x3 = x3.toInt) dX11_letter_18 (by decide) (fun c6 => ?_) (fun c6 => ?_)
  · refine lv_iconst (v := (-1)) hx hb dX11_letter_30 (by decide) ?_
    exact x_ri hx hb hr hlk hQ (Nat.le_of_ble_eq_true rfl) (Nat.le_of_ble_eq_true rfl) hS dX11_letter_31 (0) ⟨_, rfl⟩ hT.nil
  · refine lv_aload_n hx hb dX11_letter_21 rfl (lv_at hl 0 rfl) ?_
    refine gX11_22 S hK hT ha kf_X11_65 dX11_letter_22 (fun hk7 => ?_)
    refine lv_iload_n hx hb dX11_letter_25 rfl (lv_at hl 1 rfl) ?_
    refine al_2 S hK hT hk7 ar_45 (by decide) (z_X11_letter_2 p0.toInt x3.toInt z7.toInt e0 t5 c6 (xr p0) (xr x3) (xr z7)) dX11_letter_26 (fun x8 o9 => ?_)
    refine lv_goto (tgt := 31) hx hb dX11_letter_27 (by decide) ?_
    exact x_ri hx hb hr hlk hQ (Nat.le_of_ble_eq_true rfl) (Nat.le_of_ble_eq_true rfl) hS dX11_letter_31 (0) ⟨_, rfl⟩ hT.nil
