theorem z_X11_told_1 (a0 : Int) (a1 : Int) (a2 : Int) (h0 : a1 = 0 ∨ (a1 = 1 ∧ 0 ≤ a0 ∧ a0 ≤ 11 ∧ 0 ≤ a2)) (h1 : a1 = 0 ∨ a1 = 1) (h2 : ¬ (a1 = 0)) (r0 : -2147483648 ≤ a0 ∧ a0 < 2147483648) (r1 : -2147483648 ≤ a1 ∧ a1 < 2147483648) : 0 ≤ a0 ∧ a0 ≤ 11 := by first | (clear h1 h2; omega) | omega
theorem z_X11_told_2 (a0 : Int) (a1 : Int) (h0 : (a1 = 1 ∧ (0 : Int) ≤ a0 ∧ a0 ≤ (9 : Int)) ∨ (a1 = 0 ∧ (a0 < (0 : Int) ∨ (9 : Int) < a0))) (h1 : a1 ≠ 0) (h2 : a0 ≠ (9 : Int)) (r0 : -2147483648 ≤ a0 ∧ a0 < 2147483648) (r1 : -2147483648 ≤ a1 ∧ a1 < 2147483648) : 0 ≤ a0 ∧ a0 ≤ 9 := by first | (clear h1; omega) | omega
theorem z_X11_told_3 (a0 : Int) (a1 : Int) (a2 : Int) (h0 : a1 = 0 ∨ (a1 = 1 ∧ 0 ≤ a0 ∧ a0 ≤ 11 ∧ 0 ≤ a2)) (h1 : a1 = 0 ∨ a1 = 1) (h2 : ¬ (a1 = 0)) (r0 : -2147483648 ≤ a0 ∧ a0 < 2147483648) (r1 : -2147483648 ≤ a1 ∧ a1 < 2147483648) : 0 ≤ a0 ∧ a0 ≤ 11 := by first | (clear h1 h2; omega) | omega
abbrev rm_X11_told : Room := { frames := 6, cells := 0, slots := 0, locals := 145 }
set_option maxHeartbeats 4000000 in
set_option maxRecDepth 100000 in
theorem c_X11_told (l : Launch) (E : XE) (K : Nat → Nat) (F : Nat → Nat → Nat) (tl z0 z1 z2 z3 z4 z5 z6 z7 z8 z9 z10 z11 z12 z13 z14 z15 z16 z17 z18 z19 z20 : Int32) (ar0 ar1 ar2 ar3 ar4 ar5 ar6 ar7 ar8 ar9 ar10 : Nat → Int32) (a : Nat) (p0 : Int32) (p1 : Int32) (ha : K a = 13) (hR : RV ar1) : Met l yX11_told (xw yX11_told cX11_told 3 (some .int)) rm_X11_told (va_Pc [.ref a, .int p0, .int p1] (XP E K F (tl, [z0, z1, z2, z3, z4, z5, z6, z7, z8, z9, z10, z11, z12, z13, z14, z15, z16, z17, z18, z19, z20], [ar0, ar1, ar2, ar3, ar4, ar5, ar6, ar7, ar8, ar9, ar10]))) (XQ E (fun v (u : Int32 × Int32 × Int32 × (Nat → Int32) × (Nat → Int32) × (Nat → Int32)) => ∃ r : Int32, v = .int r) (fun u H => TW E K F (tl, [u.1, z1, z2, u.2.1, u.2.2.1, z5, z6, z7, z8, z9, z10, z11, z12, z13, z14, z15, z16, z17, z18, z19, z20], [ar0, ar1, u.2.2.2.1, u.2.2.2.2.1, u.2.2.2.2.2, ar5, ar6, ar7, ar8, ar9, ar10]) [] H)) 0 0 (xA E) := by
  refine x_enter (by decide) (Nat.le_of_ble_eq_true rfl) ?_
  intro p e s m args below meth c Q S hr hlk hnm hQ hP ls hl
  obtain ⟨hz, hK, hT⟩ := hP
  obtain ⟨hx, hb, -, -, -⟩ := id S
  obtain ⟨H, hT, hS, hgo⟩ : ∃ H : Heap, TW E K F (tl, [z0, z1, z2, z3, z4, z5, z6, z7, z8, z9, z10, z11, z12, z13, z14, z15, z16, z17, z18, z19, z20], [ar0, ar1, ar2, ar3, ar4, ar5, ar6, ar7, ar8, ar9, ar10]) [] H ∧ va_S (xA E) s.heap H [] ∧ H = s.heap := ⟨_, hT, va_S.rf, rfl⟩
  rw [← hgo]
  have hl : lv_has ls 3 [(0, .ref a), (1, .int p0), (2, .int p1)] := hl
  refine lv_aload_n hx hb dX11_told_0 rfl (lv_at hl 0 rfl) ?_
  refine lv_iconst (v := 0) hx hb dX11_told_1 (by decide) ?_
  refine pX11_0 (kq := []) (v := 0) S hK hT hS ha kf_X11_134 (Nat.le_of_ble_eq_true rfl) dX11_told_2 (fun _ h => by cases h) (fun H locs hT hS => ?_)
  have hT : TW E K F (tl, [0, z1, z2, z3, z4, z5, z6, z7, z8, z9, z10, z11, z12, z13, z14, z15, z16, z17, z18, z19, z20], [ar0, ar1, ar2, ar3, ar4, ar5, ar6, ar7, ar8, ar9, ar10]) [] H := hT
  refine lv_aload_n hx hb dX11_told_5 rfl (lv_at hl 0 rfl) ?_
  refine lv_iload_n hx hb dX11_told_6 rfl (lv_at hl 1 rfl) ?_
  refine x_clp (x_runV (b := a) (As := [.int p0]) (rest := []) S (c_X11_isRule l E K F tl 0 z1 z2 z3 z4 z5 z6 z7 z8 z9 z10 z11 z12 z13 z14 z15 z16 z17 z18 z19 z20 ar0 ar1 ar2 ar3 ar4 ar5 ar6 ar7 ar8 ar9 ar10 H a p0 ha hR) mv_X11_isRule km_X11_162 rfl rfl ⟨Nat.le_of_ble_eq_true rfl, Nat.le_of_ble_eq_true rfl⟩ (rc_13 hK hT ha) hK (fun _ => XPh.blind) (fun U hU hW => XPh.at hK hz hS hT hU hW) rfl hl.1 (Nat.le_of_ble_eq_true rfl) dX11_told_7 ⟨Nat.le_of_ble_eq_true rfl, Nat.le_of_ble_eq_true rfl⟩) hS ?_
  rintro _ _ locs ⟨x2, rfl, b3, t1⟩ hS
  have t1 : x2.toInt = 0 ∨ (x2.toInt = 1 ∧ 0 ≤ p0.toInt ∧ p0.toInt ≤ 11 ∧ 0 ≤ (aI ar1 (10 * p0.toInt + (0 : Int)))) := t1
  have J25 : ∀ (H : Heap) (locs : List Loc) (ls : Array Slot), TW E K F (tl, [0, z1, z2, z3, z4, z5, z6, z7, z8, z9, z10, z11, z12, z13, z14, z15, z16, z17, z18, z19, z20], [ar0, ar1, ar2, ar3, ar4, ar5, ar6, ar7, ar8, ar9, ar10]) [] H → va_S (xA E) s.heap H locs → lv_has ls 3 [] → W p l e rm_X11_told s m args below meth c H locs 0 0 Q (F0 m 25 ls []) := by
    intro H locs ls hT hS hl
    refine lv_ldc (v := (-2147483648)) hx hb S.2.2.2.1 (S.2.2.2.2 _ (List.mem_cons_of_mem _ kc_X11_57)) dX11_told_25 ?_
    refine lv_goto (tgt := 50) hx hb dX11_told_27 (by decide) ?_
    exact x_ri hx hb hr hlk hQ (Nat.le_of_ble_eq_true rfl) (Nat.le_of_ble_eq_true rfl) hS dX11_told_50 (0, z3, z4, ar2, ar3, ar4) ⟨_, rfl⟩ hT.nil
  refine xi_zeq (tgt := 25) hx hb (rfl : Int32.toInt x2 = x2.toInt) dX11_told_10 (by decide) (fun c4 => ?_) (fun c4 => ?_)
  · exact J25 _ _ _ hT.nil hS (lv_sub hl [] rfl)
  · refine lv_iload_n hx hb dX11_told_13 rfl (lv_at hl 2 rfl) ?_
    refine lv_i2l (v := p1.toInt64) hx hb dX11_told_14 rfl ?_
    refine lv_lconst (v := (0 : Int64)) hx hb dX11_told_15 (by decide) ?_
    refine lv_ldc2 (v := 9) hx hb S.2.2.2.1 (S.2.2.2.2 _ (List.mem_cons_of_mem _ kc_X11_385)) dX11_told_16 ?_
    refine x_clp (x_runS (As := [.long p1.toInt64, .long (0 : Int64), .long (9 : Int64)]) (rest := []) S (c_X11_in l E K F tl 0 z1 z2 z3 z4 z5 z6 z7 z8 z9 z10 z11 z12 z13 z14 z15 z16 z17 z18 z19 z20 ar0 ar1 ar2 ar3 ar4 ar5 ar6 ar7 ar8 ar9 ar10 H p1.toInt64 (0 : Int64) (9 : Int64) p1.toInt (0 : Int) (9 : Int) (xl_i2l (rfl : Int32.toInt p1 = p1.toInt)) (by decide) (by decide)) ms_X11_in km_X11_139 rfl rfl ⟨Nat.le_of_ble_eq_true rfl, Nat.le_of_ble_eq_true rfl⟩ hK (fun _ => XPh.blind) (fun U hU hW => XPh.at hK hz hS hT hU hW) rfl hl.1 (Nat.le_of_ble_eq_true rfl) dX11_told_19 ⟨Nat.le_of_ble_eq_true rfl, Nat.le_of_ble_eq_true rfl⟩) hS ?_
    rintro _ _ locs ⟨x5, rfl, b6, t7⟩ hS
    have t7 : (x5.toInt = 1 ∧ (0 : Int) ≤ p1.toInt ∧ p1.toInt ≤ (9 : Int)) ∨ (x5.toInt = 0 ∧ (p1.toInt < (0 : Int) ∨ (9 : Int) < p1.toInt)) := t7
    refine xi_zne (tgt := 30) hx hb (rfl : Int32.toInt x5 = x5.toInt) dX11_told_22 (by decide) (fun c8 => ?_) (fun c8 => ?_)
    · refine lv_iload_n hx hb dX11_told_30 rfl (lv_at hl 2 rfl) ?_
      refine lv_bipush (v := 9) hx hb dX11_told_31 (by decide) ?_
      refine xi_cne (tgt := 44) hx hb (rfl : Int32.toInt p1 = p1.toInt) ((by decide) : Int32.toInt 9 = (9 : Int)) dX11_told_33 (by decide) (fun c9 => ?_) (fun c9 => ?_)
      · refine lv_aload_n hx hb dX11_told_44 rfl (lv_at hl 0 rfl) ?_
        refine lv_iload_n hx hb dX11_told_45 rfl (lv_at hl 1 rfl) ?_
        refine lv_iload_n hx hb dX11_told_46 rfl (lv_at hl 2 rfl) ?_
        refine x_clp (x_runV (b := a) (As := [.int p0, .int p1]) (rest := []) S (c_X11_of l E K F tl 0 z1 z2 z3 z4 z5 z6 z7 z8 z9 z10 z11 z12 z13 z14 z15 z16 z17 z18 z19 z20 ar0 ar1 ar2 ar3 ar4 ar5 ar6 ar7 ar8 ar9 ar10 H a p0 p1 ha (z_X11_told_1 p0.toInt x2.toInt (aI ar1 (10 * p0.toInt + (0 : Int))) t1 (xbz b3) c4 (xr p0) (xr x2)) (z_X11_told_2 p1.toInt x5.toInt t7 c8 c9 (xr p1) (xr x5))) mv_X11_of km_X11_165 rfl rfl ⟨Nat.le_of_ble_eq_true rfl, Nat.le_of_ble_eq_true rfl⟩ (rc_13 hK hT ha) hK (fun _ => XPh.blind) (fun U hU hW => XPh.at hK hz hS hT hU hW) rfl hl.1 (Nat.le_of_ble_eq_true rfl) dX11_told_47 ⟨Nat.le_of_ble_eq_true rfl, Nat.le_of_ble_eq_true rfl⟩) hS ?_
        rintro _ _ locs ⟨x11, rfl, t10⟩ hS
        have t10 : x11.toInt = (aI ar1 (10 * p0.toInt + p1.toInt)) := t10
        have v13 : (-1 ≤ (aI ar1 (10 * p0.toInt + (0 : Int))) ∧ (aI ar1 (10 * p0.toInt + (0 : Int))) ≤ 5) ∧ (0 ≤ (aI ar1 (10 * p0.toInt + (1 : Int))) ∧ (aI ar1 (10 * p0.toInt + (1 : Int))) ≤ 2) ∧ (0 ≤ (aI ar1 (10 * p0.toInt + (2 : Int))) ∧ (aI ar1 (10 * p0.toInt + (2 : Int))) ≤ 2) ∧ (-1 ≤ (aI ar1 (10 * p0.toInt + (3 : Int))) ∧ (aI ar1 (10 * p0.toInt + (3 : Int))) ≤ 2) ∧ ((aI ar1 (10 * p0.toInt + (0 : Int))) = 1 ∨ (aI ar1 (10 * p0.toInt + (0 : Int))) = 3 ∨ (aI ar1 (10 * p0.toInt + (0 : Int))) = 4 → 0 ≤ (aI ar1 (10 * p0.toInt + (3 : Int)))) := RV.row hR (z_X11_told_3 p0.toInt x2.toInt (aI ar1 (10 * p0.toInt + (0 : Int))) t1 (xbz b3) c4 (xr p0) (xr x2))
        exact x_ri hx hb hr hlk hQ (Nat.le_of_ble_eq_true rfl) (Nat.le_of_ble_eq_true rfl) hS dX11_told_50 (0, z3, z4, ar2, ar3, ar4) ⟨_, rfl⟩ hT.nil
      · refine lv_aload_n hx hb dX11_told_36 rfl (lv_at hl 0 rfl) ?_
        refine lv_iload_n hx hb dX11_told_37 rfl (lv_at hl 1 rfl) ?_
        refine x_cl0 (x_runV (b := a) (As := [.int p0]) (rest := []) S (c_X11_inQueue l E K F tl 0 z1 z2 z3 z4 z5 z6 z7 z8 z9 z10 z11 z12 z13 z14 z15 z16 z17 z18 z19 z20 ar0 ar1 ar2 ar3 ar4 ar5 ar6 ar7 ar8 ar9 ar10 a p0 ha hR) mv_X11_inQueue km_X11_306 rfl rfl ⟨Nat.le_of_ble_eq_true rfl, Nat.le_of_ble_eq_true rfl⟩ (rc_13 hK hT ha) hK (fun _ => XP.blind) (fun U hU hW => XP.at hK hz hS hT hU hW) rfl hl.1 (Nat.le_of_ble_eq_true rfl) dX11_told_38 ⟨Nat.le_of_ble_eq_true rfl, Nat.le_of_ble_eq_true rfl⟩) hS ?_
        rintro _ ⟨u14, u15, f16, f17, f18⟩ H locs ⟨x20, rfl, t19⟩ hT hS
        have hT : TW E K F (tl, [0, z1, z2, u14, u15, z5, z6, z7, z8, z9, z10, z11, z12, z13, z14, z15, z16, z17, z18, z19, z20], [ar0, ar1, f16, f17, f18, ar5, ar6, ar7, ar8, ar9, ar10]) [] H := hT
        have t19 : 0 ≤ u15.toInt ∧ u15.toInt ≤ 2388 ∧ u15.toInt ≤ (((fV ar1 f17 f18) : Nat) : Int) := t19
        refine lv_goto (tgt := 50) hx hb dX11_told_41 (by decide) ?_
        exact x_ri hx hb hr hlk hQ (Nat.le_of_ble_eq_true rfl) (Nat.le_of_ble_eq_true rfl) hS dX11_told_50 (0, u14, u15, f16, f17, f18) ⟨_, rfl⟩ hT.nil
    · exact J25 _ _ _ hT.nil hS (lv_sub hl [] rfl)

theorem z_X11_queue_1 (a0 : Int) (a1 : Nat) (h0 : 0 ≤ a0 ∧ a0 ≤ 2388 ∧ a0 ≤ ((a1 : Nat) : Int)) (r0 : -2147483648 ≤ a0 ∧ a0 < 2147483648) : -2147483648 ≤ a0 ∧ a0 < 2147483648 := by omega
theorem z_X11_queue_2 (a0 : Int) (a1 : Int) (a2 : Int) (a3 : Int) (a4 : Nat) (h0 : 0 ≤ a1 ∧ a1 ≤ 2388 ∧ a1 ≤ ((a4 : Nat) : Int)) (h1 : (a2 = 1 ∧ (0 : Int) ≤ a0 ∧ a0 ≤ (a1 - (1 : Int))) ∨ (a2 = 0 ∧ (a0 < (0 : Int) ∨ (a1 - (1 : Int)) < a0))) (h2 : a3 = 0 ∨ a3 = 1) (h3 : a3 = 0 → 0 ≤ a0 ∧ a0 < a1) (h4 : a3 ≠ (1 : Int)) (r0 : -2147483648 ≤ a0 ∧ a0 < 2147483648) (r1 : -2147483648 ≤ a1 ∧ a1 < 2147483648) (r2 : -2147483648 ≤ a2 ∧ a2 < 2147483648) (r3 : -2147483648 ≤ a3 ∧ a3 < 2147483648) : 0 ≤ a0 ∧ a0 < ((2400 : Nat) : Int) := by first | (clear h2 h4; omega) | omega
theorem z_X11_queue_3 (a0 : Int) (a1 : Int) (a2 : Int) (a3 : Int) (a4 : Nat) (h0 : 0 ≤ a1 ∧ a1 ≤ 2388 ∧ a1 ≤ ((a4 : Nat) : Int)) (h1 : (a2 = 1 ∧ (0 : Int) ≤ a0 ∧ a0 ≤ (a1 - (1 : Int))) ∨ (a2 = 0 ∧ (a0 < (0 : Int) ∨ (a1 - (1 : Int)) < a0))) (h2 : a3 = 0 ∨ a3 = 1) (h3 : a3 = 0 → 0 ≤ a0 ∧ a0 < a1) (h4 : a3 ≠ (1 : Int)) (r0 : -2147483648 ≤ a0 ∧ a0 < 2147483648) (r1 : -2147483648 ≤ a1 ∧ a1 < 2147483648) (r2 : -2147483648 ≤ a2 ∧ a2 < 2147483648) (r3 : -2147483648 ≤ a3 ∧ a3 < 2147483648) : 0 ≤ a0 ∧ a0 < ((a4 : Nat) : Int) := by first | (clear h2 h4; omega) | omega
theorem z_X11_queue_4 (a0 : Int) (a1 : Int) (a2 : Int) (h0 : a0 = a2) (h1 : 0 ≤ a0 ∧ a0 ≤ 11 ∧ 0 ≤ a1) (r0 : -2147483648 ≤ a0 ∧ a0 < 2147483648) : 0 ≤ a0 ∧ a0 ≤ 11 := by omega
theorem z_X11_queue_5 (a0 : Int) (a1 : Int) (a2 : Int) (a3 : Int) (a4 : Nat) (h0 : 0 ≤ a1 ∧ a1 ≤ 2388 ∧ a1 ≤ ((a4 : Nat) : Int)) (h1 : (a2 = 1 ∧ (0 : Int) ≤ a0 ∧ a0 ≤ (a1 - (1 : Int))) ∨ (a2 = 0 ∧ (a0 < (0 : Int) ∨ (a1 - (1 : Int)) < a0))) (h2 : a3 = 0 ∨ a3 = 1) (h3 : a3 = 0 → 0 ≤ a0 ∧ a0 < a1) (h4 : a3 ≠ (1 : Int)) (r0 : -2147483648 ≤ a0 ∧ a0 < 2147483648) (r1 : -2147483648 ≤ a1 ∧ a1 < 2147483648) (r2 : -2147483648 ≤ a2 ∧ a2 < 2147483648) (r3 : -2147483648 ≤ a3 ∧ a3 < 2147483648) : 0 ≤ a0 ∧ a0 < ((2400 : Nat) : Int) := by first | (clear h2 h4; omega) | omega
theorem z_X11_queue_6 (a0 : Int) (a1 : Int) (a2 : Int) (a3 : Int) (a4 : Nat) (h0 : 0 ≤ a1 ∧ a1 ≤ 2388 ∧ a1 ≤ ((a4 : Nat) : Int)) (h1 : (a2 = 1 ∧ (0 : Int) ≤ a0 ∧ a0 ≤ (a1 - (1 : Int))) ∨ (a2 = 0 ∧ (a0 < (0 : Int) ∨ (a1 - (1 : Int)) < a0))) (h2 : a3 = 0 ∨ a3 = 1) (h3 : a3 = 0 → 0 ≤ a0 ∧ a0 < a1) (h4 : a3 ≠ (1 : Int)) (r0 : -2147483648 ≤ a0 ∧ a0 < 2147483648) (r1 : -2147483648 ≤ a1 ∧ a1 < 2147483648) (r2 : -2147483648 ≤ a2 ∧ a2 < 2147483648) (r3 : -2147483648 ≤ a3 ∧ a3 < 2147483648) : 0 ≤ a0 ∧ a0 < ((a4 : Nat) : Int) := by first | (clear h2 h4; omega) | omega
theorem z_X11_queue_7 (a0 : Int) (r0 : -2147483648 ≤ a0 ∧ a0 < 2147483648) : (a0 < 0 ∨ 4 < a0) ∨ (a0 = 0) ∨ (a0 = 1) ∨ (a0 = 2) ∨ (a0 = 3) ∨ (a0 = 4) := by omega
theorem z_X11_queue_8 (a0 : Int) (a1 : Int) (a2 : Int) (a3 : Int) (a4 : Nat) (h0 : 0 ≤ a1 ∧ a1 ≤ 2388 ∧ a1 ≤ ((a4 : Nat) : Int)) (h1 : (a2 = 1 ∧ (0 : Int) ≤ a0 ∧ a0 ≤ (a1 - (1 : Int))) ∨ (a2 = 0 ∧ (a0 < (0 : Int) ∨ (a1 - (1 : Int)) < a0))) (h2 : a3 = 0 ∨ a3 = 1) (h3 : a3 = 0 → 0 ≤ a0 ∧ a0 < a1) (h4 : a3 ≠ (1 : Int)) (r0 : -2147483648 ≤ a0 ∧ a0 < 2147483648) (r1 : -2147483648 ≤ a1 ∧ a1 < 2147483648) (r2 : -2147483648 ≤ a2 ∧ a2 < 2147483648) (r3 : -2147483648 ≤ a3 ∧ a3 < 2147483648) : 0 ≤ a0 ∧ a0 < ((2400 : Nat) : Int) := by first | (clear h2 h4; omega) | omega
theorem z_X11_queue_9 (a0 : Int) (a1 : Int) (a2 : Int) (a3 : Int) (a4 : Nat) (h0 : 0 ≤ a1 ∧ a1 ≤ 2388 ∧ a1 ≤ ((a4 : Nat) : Int)) (h1 : (a2 = 1 ∧ (0 : Int) ≤ a0 ∧ a0 ≤ (a1 - (1 : Int))) ∨ (a2 = 0 ∧ (a0 < (0 : Int) ∨ (a1 - (1 : Int)) < a0))) (h2 : a3 = 0 ∨ a3 = 1) (h3 : a3 = 0 → 0 ≤ a0 ∧ a0 < a1) (h4 : a3 ≠ (1 : Int)) (r0 : -2147483648 ≤ a0 ∧ a0 < 2147483648) (r1 : -2147483648 ≤ a1 ∧ a1 < 2147483648) (r2 : -2147483648 ≤ a2 ∧ a2 < 2147483648) (r3 : -2147483648 ≤ a3 ∧ a3 < 2147483648) : 0 ≤ a0 ∧ a0 < ((a4 : Nat) : Int) := by first | (clear h2 h4; omega) | omega
theorem z_X11_queue_10 (a0 : Int) (a1 : Int) (a2 : Int) (a3 : Int) (a4 : Int) (a5 : Int) (a6 : Int) (a7 : Int) (a8 : Int) (a9 : Int) (a10 : Int) (h0 : a0 = a8) (h1 : 0 ≤ a0 ∧ a0 ≤ 11 ∧ 0 ≤ a5) (h2 : -1 ≤ a5 ∧ a5 ≤ 5) (h3 : -1 ≤ a6 ∧ a6 ≤ 2) (h4 : a5 = 1 ∨ a5 = 3 ∨ a5 = 4 → 0 ≤ a6) (h5 : a1 = a9) (h6 : -99 ≤ a1 ∧ a1 ≤ 99 ∧ a4 ≤ a1 ∧ a1 ≤ a10) (h7 : 0 ≤ a0 ∧ a0 ≤ 11 ∧ -99 ≤ a1 ∧ a1 ≤ 99 → a2 = 199 * a0 + a1 + 99) (h8 : a3 = a8) (h9 : 0 ≤ a3 ∧ a3 ≤ 11 ∧ 0 ≤ a7) (r0 : -2147483648 ≤ a0 ∧ a0 < 2147483648) (r1 : -2147483648 ≤ a1 ∧ a1 < 2147483648) (r2 : -2147483648 ≤ a2 ∧ a2 < 2147483648) (r3 : -2147483648 ≤ a3 ∧ a3 < 2147483648) : 0 ≤ a3 ∧ a3 ≤ 11 := by first | (clear h4 h7; omega) | omega
theorem z_X11_queue_11 (a0 : Int) (a1 : Int) (a2 : Int) (a3 : Int) (a4 : Nat) (h0 : 0 ≤ a1 ∧ a1 ≤ 2388 ∧ a1 ≤ ((a4 : Nat) : Int)) (h1 : (a2 = 1 ∧ (0 : Int) ≤ a0 ∧ a0 ≤ (a1 - (1 : Int))) ∨ (a2 = 0 ∧ (a0 < (0 : Int) ∨ (a1 - (1 : Int)) < a0))) (h2 : a3 = 0 ∨ a3 = 1) (h3 : a3 = 0 → 0 ≤ a0 ∧ a0 < a1) (h4 : a3 ≠ (1 : Int)) (r0 : -2147483648 ≤ a0 ∧ a0 < 2147483648) (r1 : -2147483648 ≤ a1 ∧ a1 < 2147483648) (r2 : -2147483648 ≤ a2 ∧ a2 < 2147483648) (r3 : -2147483648 ≤ a3 ∧ a3 < 2147483648) : 0 ≤ a0 ∧ a0 < ((2400 : Nat) : Int) := by first | (clear h2 h4; omega) | omega
theorem z_X11_queue_12 (a0 : Int) (a1 : Int) (a2 : Int) (a3 : Int) (a4 : Nat) (h0 : 0 ≤ a1 ∧ a1 ≤ 2388 ∧ a1 ≤ ((a4 : Nat) : Int)) (h1 : (a2 = 1 ∧ (0 : Int) ≤ a0 ∧ a0 ≤ (a1 - (1 : Int))) ∨ (a2 = 0 ∧ (a0 < (0 : Int) ∨ (a1 - (1 : Int)) < a0))) (h2 : a3 = 0 ∨ a3 = 1) (h3 : a3 = 0 → 0 ≤ a0 ∧ a0 < a1) (h4 : a3 ≠ (1 : Int)) (r0 : -2147483648 ≤ a0 ∧ a0 < 2147483648) (r1 : -2147483648 ≤ a1 ∧ a1 < 2147483648) (r2 : -2147483648 ≤ a2 ∧ a2 < 2147483648) (r3 : -2147483648 ≤ a3 ∧ a3 < 2147483648) : 0 ≤ a0 ∧ a0 < ((a4 : Nat) : Int) := by first | (clear h2 h4; omega) | omega
theorem z_X11_queue_13 (a0 : Int) (a1 : Int) (a2 : Int) (a3 : Int) (a4 : Int) (a5 : Int) (a6 : Int) (a7 : Int) (a8 : Int) (h0 : a0 = a6) (h1 : 0 ≤ a0 ∧ a0 ≤ 11 ∧ 0 ≤ a4) (h2 : -1 ≤ a4 ∧ a4 ≤ 5) (h3 : -1 ≤ a5 ∧ a5 ≤ 2) (h4 : a4 = 1 ∨ a4 = 3 ∨ a4 = 4 → 0 ≤ a5) (h5 : a1 = a7) (h6 : -99 ≤ a1 ∧ a1 ≤ 99 ∧ a3 ≤ a1 ∧ a1 ≤ a8) (h7 : 0 ≤ a0 ∧ a0 ≤ 11 ∧ -99 ≤ a1 ∧ a1 ≤ 99 → a2 = 199 * a0 + a1 + 99) (r0 : -2147483648 ≤ a0 ∧ a0 < 2147483648) (r1 : -2147483648 ≤ a1 ∧ a1 < 2147483648) (r2 : -2147483648 ≤ a2 ∧ a2 < 2147483648) : 0 ≤ a2 ∧ a2 < ((2388 : Nat) : Int) := by first | (clear h4; omega) | omega
theorem z_X11_queue_14 (a0 : Int) (a1 : Int) (a2 : Int) (a3 : Int) (a4 : Int) (a5 : Int) (a6 : Int) (a7 : Int) (a8 : Int) (h0 : a0 = a6) (h1 : 0 ≤ a0 ∧ a0 ≤ 11 ∧ 0 ≤ a4) (h2 : -1 ≤ a4 ∧ a4 ≤ 5) (h3 : -1 ≤ a5 ∧ a5 ≤ 2) (h4 : a4 = 1 ∨ a4 = 3 ∨ a4 = 4 → 0 ≤ a5) (h5 : a1 = a7) (h6 : -99 ≤ a1 ∧ a1 ≤ 99 ∧ a3 ≤ a1 ∧ a1 ≤ a8) (h7 : 0 ≤ a0 ∧ a0 ≤ 11 ∧ -99 ≤ a1 ∧ a1 ≤ 99 → a2 = 199 * a0 + a1 + 99) (r0 : -2147483648 ≤ a0 ∧ a0 < 2147483648) (r1 : -2147483648 ≤ a1 ∧ a1 < 2147483648) (r2 : -2147483648 ≤ a2 ∧ a2 < 2147483648) : 0 ≤ a2 ∧ a2 < ((2388 : Nat) : Int) := by first | (clear h4; omega) | omega
theorem z_X11_queue_15 (a0 : Int) (a1 : Int) (a2 : Int) (a3 : Int) (a4 : Nat) (h0 : 0 ≤ a1 ∧ a1 ≤ 2388 ∧ a1 ≤ ((a4 : Nat) : Int)) (h1 : (a2 = 1 ∧ (0 : Int) ≤ a0 ∧ a0 ≤ (a1 - (1 : Int))) ∨ (a2 = 0 ∧ (a0 < (0 : Int) ∨ (a1 - (1 : Int)) < a0))) (h2 : a3 = 0 ∨ a3 = 1) (h3 : a3 = 0 → 0 ≤ a0 ∧ a0 < a1) (h4 : a3 ≠ (1 : Int)) (r0 : -2147483648 ≤ a0 ∧ a0 < 2147483648) (r1 : -2147483648 ≤ a1 ∧ a1 < 2147483648) (r2 : -2147483648 ≤ a2 ∧ a2 < 2147483648) (r3 : -2147483648 ≤ a3 ∧ a3 < 2147483648) : 0 ≤ a0 ∧ a0 < ((2400 : Nat) : Int) := by first | (clear h2 h4; omega) | omega
theorem z_X11_queue_16 (a0 : Int) (a1 : Int) (a2 : Int) (a3 : Int) (a4 : Nat) (h0 : 0 ≤ a1 ∧ a1 ≤ 2388 ∧ a1 ≤ ((a4 : Nat) : Int)) (h1 : (a2 = 1 ∧ (0 : Int) ≤ a0 ∧ a0 ≤ (a1 - (1 : Int))) ∨ (a2 = 0 ∧ (a0 < (0 : Int) ∨ (a1 - (1 : Int)) < a0))) (h2 : a3 = 0 ∨ a3 = 1) (h3 : a3 = 0 → 0 ≤ a0 ∧ a0 < a1) (h4 : a3 ≠ (1 : Int)) (r0 : -2147483648 ≤ a0 ∧ a0 < 2147483648) (r1 : -2147483648 ≤ a1 ∧ a1 < 2147483648) (r2 : -2147483648 ≤ a2 ∧ a2 < 2147483648) (r3 : -2147483648 ≤ a3 ∧ a3 < 2147483648) : 0 ≤ a0 ∧ a0 < ((a4 : Nat) : Int) := by first | (clear h2 h4; omega) | omega
theorem z_X11_queue_17 (a0 : Int) (a1 : Int) (a2 : Int) (a3 : Int) (a4 : Int) (a5 : Int) (a6 : Int) (a7 : Int) (a8 : Int) (a9 : Int) (a10 : Int) (h0 : a0 = a8) (h1 : 0 ≤ a0 ∧ a0 ≤ 11 ∧ 0 ≤ a5) (h2 : -1 ≤ a5 ∧ a5 ≤ 5) (h3 : -1 ≤ a6 ∧ a6 ≤ 2) (h4 : a5 = 1 ∨ a5 = 3 ∨ a5 = 4 → 0 ≤ a6) (h5 : a1 = a9) (h6 : -99 ≤ a1 ∧ a1 ≤ 99 ∧ a4 ≤ a1 ∧ a1 ≤ a10) (h7 : 0 ≤ a0 ∧ a0 ≤ 11 ∧ -99 ≤ a1 ∧ a1 ≤ 99 → a2 = 199 * a0 + a1 + 99) (h8 : a3 = a8) (h9 : 0 ≤ a3 ∧ a3 ≤ 11 ∧ 0 ≤ a7) (r0 : -2147483648 ≤ a0 ∧ a0 < 2147483648) (r1 : -2147483648 ≤ a1 ∧ a1 < 2147483648) (r2 : -2147483648 ≤ a2 ∧ a2 < 2147483648) (r3 : -2147483648 ≤ a3 ∧ a3 < 2147483648) : 0 ≤ a3 ∧ a3 ≤ 11 := by first | (clear h4 h7; omega) | omega
theorem z_X11_queue_18 (a0 : Int) (a1 : Int) (a2 : Int) (a3 : Int) (a4 : Nat) (h0 : 0 ≤ a1 ∧ a1 ≤ 2388 ∧ a1 ≤ ((a4 : Nat) : Int)) (h1 : (a2 = 1 ∧ (0 : Int) ≤ a0 ∧ a0 ≤ (a1 - (1 : Int))) ∨ (a2 = 0 ∧ (a0 < (0 : Int) ∨ (a1 - (1 : Int)) < a0))) (h2 : a3 = 0 ∨ a3 = 1) (h3 : a3 = 0 → 0 ≤ a0 ∧ a0 < a1) (h4 : a3 ≠ (1 : Int)) (r0 : -2147483648 ≤ a0 ∧ a0 < 2147483648) (r1 : -2147483648 ≤ a1 ∧ a1 < 2147483648) (r2 : -2147483648 ≤ a2 ∧ a2 < 2147483648) (r3 : -2147483648 ≤ a3 ∧ a3 < 2147483648) : 0 ≤ a0 ∧ a0 < ((2400 : Nat) : Int) := by first | (clear h2 h4; omega) | omega
theorem z_X11_queue_19 (a0 : Int) (a1 : Int) (a2 : Int) (a3 : Int) (a4 : Nat) (h0 : 0 ≤ a1 ∧ a1 ≤ 2388 ∧ a1 ≤ ((a4 : Nat) : Int)) (h1 : (a2 = 1 ∧ (0 : Int) ≤ a0 ∧ a0 ≤ (a1 - (1 : Int))) ∨ (a2 = 0 ∧ (a0 < (0 : Int) ∨ (a1 - (1 : Int)) < a0))) (h2 : a3 = 0 ∨ a3 = 1) (h3 : a3 = 0 → 0 ≤ a0 ∧ a0 < a1) (h4 : a3 ≠ (1 : Int)) (r0 : -2147483648 ≤ a0 ∧ a0 < 2147483648) (r1 : -2147483648 ≤ a1 ∧ a1 < 2147483648) (r2 : -2147483648 ≤ a2 ∧ a2 < 2147483648) (r3 : -2147483648 ≤ a3 ∧ a3 < 2147483648) : 0 ≤ a0 ∧ a0 < ((a4 : Nat) : Int) := by first | (clear h2 h4; omega) | omega
theorem z_X11_queue_20 (a0 : Int) (a1 : Int) (a2 : Int) (a3 : Int) (a4 : Int) (a5 : Int) (a6 : Int) (a7 : Int) (a8 : Int) (a9 : Int) (a10 : Int) (a11 : Int) (a12 : Int) (a13 : Int) (a14 : Int) (h0 : a0 = a11) (h1 : 0 ≤ a0 ∧ a0 ≤ 11 ∧ 0 ≤ a7) (h2 : -1 ≤ a7 ∧ a7 ≤ 5) (h3 : -1 ≤ a8 ∧ a8 ≤ 2) (h4 : a7 = 1 ∨ a7 = 3 ∨ a7 = 4 → 0 ≤ a8) (h5 : a1 = a12) (h6 : -99 ≤ a1 ∧ a1 ≤ 99 ∧ a5 ≤ a1 ∧ a1 ≤ a13) (h7 : 0 ≤ a0 ∧ a0 ≤ 11 ∧ -99 ≤ a1 ∧ a1 ≤ 99 → a2 = 199 * a0 + a1 + 99) (h8 : a3 = a11) (h9 : 0 ≤ a3 ∧ a3 ≤ 11 ∧ 0 ≤ a9) (h10 : -1 ≤ a9 ∧ a9 ≤ 5) (h11 : -1 ≤ a10 ∧ a10 ≤ 2) (h12 : a9 = 1 ∨ a9 = 3 ∨ a9 = 4 → 0 ≤ a10) (h13 : a4 = a12) (h14 : -99 ≤ a4 ∧ a4 ≤ 99 ∧ a6 ≤ a4 ∧ a4 ≤ a14) (r0 : -2147483648 ≤ a0 ∧ a0 < 2147483648) (r1 : -2147483648 ≤ a1 ∧ a1 < 2147483648) (r2 : -2147483648 ≤ a2 ∧ a2 < 2147483648) (r3 : -2147483648 ≤ a3 ∧ a3 < 2147483648) (r4 : -2147483648 ≤ a4 ∧ a4 < 2147483648) : 0 ≤ a3 ∧ a3 ≤ 11 := by first | (clear h4 h7 h12; omega) | omega
theorem z_X11_queue_21 (a0 : Int) (a1 : Int) (a2 : Int) (a3 : Int) (a4 : Int) (a5 : Int) (a6 : Int) (a7 : Int) (a8 : Int) (a9 : Int) (a10 : Int) (a11 : Int) (a12 : Int) (a13 : Int) (a14 : Int) (h0 : a0 = a11) (h1 : 0 ≤ a0 ∧ a0 ≤ 11 ∧ 0 ≤ a7) (h2 : -1 ≤ a7 ∧ a7 ≤ 5) (h3 : -1 ≤ a8 ∧ a8 ≤ 2) (h4 : a7 = 1 ∨ a7 = 3 ∨ a7 = 4 → 0 ≤ a8) (h5 : a1 = a12) (h6 : -99 ≤ a1 ∧ a1 ≤ 99 ∧ a5 ≤ a1 ∧ a1 ≤ a13) (h7 : 0 ≤ a0 ∧ a0 ≤ 11 ∧ -99 ≤ a1 ∧ a1 ≤ 99 → a2 = 199 * a0 + a1 + 99) (h8 : a3 = a11) (h9 : 0 ≤ a3 ∧ a3 ≤ 11 ∧ 0 ≤ a9) (h10 : -1 ≤ a9 ∧ a9 ≤ 5) (h11 : -1 ≤ a10 ∧ a10 ≤ 2) (h12 : a9 = 1 ∨ a9 = 3 ∨ a9 = 4 → 0 ≤ a10) (h13 : a4 = a12) (h14 : -99 ≤ a4 ∧ a4 ≤ 99 ∧ a6 ≤ a4 ∧ a4 ≤ a14) (r0 : -2147483648 ≤ a0 ∧ a0 < 2147483648) (r1 : -2147483648 ≤ a1 ∧ a1 < 2147483648) (r2 : -2147483648 ≤ a2 ∧ a2 < 2147483648) (r3 : -2147483648 ≤ a3 ∧ a3 < 2147483648) (r4 : -2147483648 ≤ a4 ∧ a4 < 2147483648) : 0 ≤ a9 := by first | (clear h4 h7; omega) | omega
theorem z_X11_queue_22 (a0 : Int) (a1 : Int) (a2 : Int) (a3 : Int) (a4 : Int) (a5 : Int) (a6 : Int) (a7 : Int) (a8 : Int) (a9 : Int) (a10 : Int) (a11 : Int) (a12 : Int) (a13 : Int) (a14 : Int) (h0 : a0 = a11) (h1 : 0 ≤ a0 ∧ a0 ≤ 11 ∧ 0 ≤ a7) (h2 : -1 ≤ a7 ∧ a7 ≤ 5) (h3 : -1 ≤ a8 ∧ a8 ≤ 2) (h4 : a7 = 1 ∨ a7 = 3 ∨ a7 = 4 → 0 ≤ a8) (h5 : a1 = a12) (h6 : -99 ≤ a1 ∧ a1 ≤ 99 ∧ a5 ≤ a1 ∧ a1 ≤ a13) (h7 : 0 ≤ a0 ∧ a0 ≤ 11 ∧ -99 ≤ a1 ∧ a1 ≤ 99 → a2 = 199 * a0 + a1 + 99) (h8 : a3 = a11) (h9 : 0 ≤ a3 ∧ a3 ≤ 11 ∧ 0 ≤ a9) (h10 : -1 ≤ a9 ∧ a9 ≤ 5) (h11 : -1 ≤ a10 ∧ a10 ≤ 2) (h12 : a9 = 1 ∨ a9 = 3 ∨ a9 = 4 → 0 ≤ a10) (h13 : a4 = a12) (h14 : -99 ≤ a4 ∧ a4 ≤ 99 ∧ a6 ≤ a4 ∧ a4 ≤ a14) (r0 : -2147483648 ≤ a0 ∧ a0 < 2147483648) (r1 : -2147483648 ≤ a1 ∧ a1 < 2147483648) (r2 : -2147483648 ≤ a2 ∧ a2 < 2147483648) (r3 : -2147483648 ≤ a3 ∧ a3 < 2147483648) (r4 : -2147483648 ≤ a4 ∧ a4 < 2147483648) : a6 ≤ a4 ∧ a4 ≤ a14 := by first | (clear h4 h7 h12; omega) | omega
theorem z_X11_queue_23 (a0 : Int) (a1 : Int) (a2 : Int) (a3 : Nat) (h0 : 0 ≤ a1 ∧ a1 ≤ 2388 ∧ a1 ≤ ((a3 : Nat) : Int)) (h1 : (a2 = 1 ∧ (0 : Int) ≤ a0 ∧ a0 ≤ (a1 - (1 : Int))) ∨ (a2 = 0 ∧ (a0 < (0 : Int) ∨ (a1 - (1 : Int)) < a0))) (h2 : a2 = 0) (r0 : -2147483648 ≤ a0 ∧ a0 < 2147483648) (r1 : -2147483648 ≤ a1 ∧ a1 < 2147483648) (r2 : -2147483648 ≤ a2 ∧ a2 < 2147483648) : ((1 : Int) = 0 ∨ (1 : Int) = 1) ∧ ((1 : Int) = 0 → 0 ≤ a0 ∧ a0 < a1) := by omega
theorem z_X11_queue_24 (a0 : Int) (a1 : Int) (a2 : Int) (a3 : Nat) (h0 : 0 ≤ a1 ∧ a1 ≤ 2388 ∧ a1 ≤ ((a3 : Nat) : Int)) (h1 : (a2 = 1 ∧ (0 : Int) ≤ a0 ∧ a0 ≤ (a1 - (1 : Int))) ∨ (a2 = 0 ∧ (a0 < (0 : Int) ∨ (a1 - (1 : Int)) < a0))) (h2 : ¬ (a2 = 0)) (r0 : -2147483648 ≤ a0 ∧ a0 < 2147483648) (r1 : -2147483648 ≤ a1 ∧ a1 < 2147483648) (r2 : -2147483648 ≤ a2 ∧ a2 < 2147483648) : ((0 : Int) = 0 ∨ (0 : Int) = 1) ∧ ((0 : Int) = 0 → 0 ≤ a0 ∧ a0 < a1) := by first | (clear h2; omega) | omega
abbrev rm_X11_queue : Room := { frames := 5, cells := 0, slots := 0, locals := 122 }
set_option maxHeartbeats 4000000 in
set_option maxRecDepth 100000 in
theorem c_X11_queue (l : Launch) (E : XE) (K : Nat → Nat) (F : Nat → Nat → Nat) (tl z0 z1 z2 z3 z4 z5 z6 z7 z8 z9 z10 z11 z12 z13 z14 z15 z16 z17 z18 z19 z20 : Int32) (ar0 ar1 ar2 ar3 ar4 ar5 ar6 ar7 ar8 ar9 ar10 : Nat → Int32) (a : Nat) (p0 : Int32) (p1 : Int32) (ha : K a = 13) (hR : RV ar1) : Met l yX11_queue (xw yX11_queue cX11_queue 4 (some .int)) rm_X11_queue (va_Pc [.ref a, .int p0, .int p1] (XP E K F (tl, [z0, z1, z2, z3, z4, z5, z6, z7, z8, z9, z10, z11, z12, z13, z14, z15, z16, z17, z18, z19, z20], [ar0, ar1, ar2, ar3, ar4, ar5, ar6, ar7, ar8, ar9, ar10]))) (XQ E (fun v (u : Int32 × Int32 × Int32 × (Nat → Int32) × (Nat → Int32) × (Nat → Int32)) => ∃ r : Int32, v = .int r) (fun u H => TW E K F (tl, [u.1, z1, z2, u.2.1, u.2.2.1, z5, z6, z7, z8, z9, z10, z11, z12, z13, z14, z15, z16, z17, z18, z19, z20], [ar0, ar1, u.2.2.2.1, u.2.2.2.2.1, u.2.2.2.2.2, ar5, ar6, ar7, ar8, ar9, ar10]) [] H)) 0 0 (xA E) := by
  refine x_enter (by decide) (Nat.le_of_ble_eq_true rfl) ?_
  intro p e s m args below meth c Q S hr hlk hnm hQ hP ls hl
  obtain ⟨hz, hK, hT⟩ := hP
  obtain ⟨hx, hb, -, -, -⟩ := id S
  obtain ⟨H, hT, hS, hgo⟩ : ∃ H : Heap, TW E K F (tl, [z0, z1, z2, z3, z4, z5, z6, z7, z8, z9, z10, z11, z12, z13, z14, z15, z16, z17, z18, z19, z20], [ar0, ar1, ar2, ar3, ar4, ar5, ar6, ar7, ar8, ar9, ar10]) [] H ∧ va_S (xA E) s.heap H [] ∧ H = s.heap := ⟨_, hT, va_S.rf, rfl⟩
  rw [← hgo]
  have hl : lv_has ls 4 [(0, .ref a), (1, .int p0), (2, .int p1)] := hl
  refine lv_aload_n hx hb dX11_queue_0 rfl (lv_at hl 0 rfl) ?_
  refine x_cv0 (x_runV (b := a) (As := []) (rest := []) S (c_X11_findQueue l E K F tl z0 z1 z2 z3 z4 z5 z6 z7 z8 z9 z10 z11 z12 z13 z14 z15 z16 z17 z18 z19 z20 ar0 ar1 ar2 ar3 ar4 ar5 ar6 ar7 ar8 ar9 ar10 a ha hR) mv_X11_findQueue km_X11_218 rfl rfl ⟨Nat.le_of_ble_eq_true rfl, Nat.le_of_ble_eq_true rfl⟩ (rc_13 hK hT ha) hK (fun _ => XP.blind) (fun U hU hW => XP.at hK hz hS hT hU hW) rfl hl.1 (Nat.le_of_ble_eq_true rfl) dX11_queue_1 ⟨Nat.le_of_ble_eq_true rfl, Nat.le_of_ble_eq_true rfl⟩) hS ?_
  rintro ⟨u1, u2, f3, f4, f5⟩ H locs t6 hT hS
  have hT : TW E K F (tl, [z0, z1, z2, u1, u2, z5, z6, z7, z8, z9, z10, z11, z12, z13, z14, z15, z16, z17, z18, z19, z20], [ar0, ar1, f3, f4, f5, ar5, ar6, ar7, ar8, ar9, ar10]) [] H := hT
  have t6 : 0 ≤ u2.toInt ∧ u2.toInt ≤ 2388 ∧ u2.toInt ≤ (((fV ar1 f4 f5) : Nat) : Int) := t6
  refine lv_aload_n hx hb dX11_queue_4 rfl (lv_at hl 0 rfl) ?_
  refine lv_iload_n hx hb dX11_queue_5 rfl (lv_at hl 1 rfl) ?_
  refine lv_i2l (v := p0.toInt64) hx hb dX11_queue_6 rfl ?_
  refine lv_lconst (v := (0 : Int64)) hx hb dX11_queue_7 (by decide) ?_
  refine lv_aload_n hx hb dX11_queue_8 rfl (lv_at hl 0 rfl) ?_
  refine gX11_19 S hK hT ha kf_X11_203 dX11_queue_9 (v := u2) rfl ?_
  refine lv_i2l (v := u2.toInt64) hx hb dX11_queue_12 rfl ?_
  refine lv_lconst (v := (1 : Int64)) hx hb dX11_queue_13 (by decide) ?_
  refine lv_lsub hx hb dX11_queue_14 (lv_topl (fun y9 hy10 => ?_))
  have hy10 : y9.toInt = u2.toInt - (1 : Int) := xl_sub (xl_i2l (rfl : Int32.toInt u2 = u2.toInt)) (by decide) (z_X11_queue_1 u2.toInt (fV ar1 f4 f5) t6 (xr u2)) (by decide) hy10
  refine x_clp (x_runS (As := [.long p0.toInt64, .long (0 : Int64), .long y9]) (rest := [.ref a]) S (c_X11_in l E K F tl z0 z1 z2 u1 u2 z5 z6 z7 z8 z9 z10 z11 z12 z13 z14 z15 z16 z17 z18 z19 z20 ar0 ar1 f3 f4 f5 ar5 ar6 ar7 ar8 ar9 ar10 H p0.toInt64 (0 : Int64) y9 p0.toInt (0 : Int) (u2.toInt - (1 : Int)) (xl_i2l (rfl : Int32.toInt p0 = p0.toInt)) (by decide) hy10) ms_X11_in km_X11_139 rfl rfl ⟨Nat.le_of_ble_eq_true rfl, Nat.le_of_ble_eq_true rfl⟩ hK (fun _ => XPh.blind) (fun U hU hW => XPh.at hK hz hS hT hU hW) rfl hl.1 (Nat.le_of_ble_eq_true rfl) dX11_queue_15 ⟨Nat.le_of_ble_eq_true rfl, Nat.le_of_ble_eq_true rfl⟩) hS ?_
  rintro _ _ locs ⟨x11, rfl, b12, t13⟩ hS
  have t13 : (x11.toInt = 1 ∧ (0 : Int) ≤ p0.toInt ∧ p0.toInt ≤ (u2.toInt - (1 : Int))) ∨ (x11.toInt = 0 ∧ (p0.toInt < (0 : Int) ∨ (u2.toInt - (1 : Int)) < p0.toInt)) := t13
  have J26 : ∀ (x14 : Int32) (H : Heap) (locs : List Loc) (ls : Array Slot), ((x14.toInt = 0 ∨ x14.toInt = 1) ∧ (x14.toInt = 0 → 0 ≤ p0.toInt ∧ p0.toInt < u2.toInt)) → TW E K F (tl, [z0, z1, z2, u1, u2, z5, z6, z7, z8, z9, z10, z11, z12, z13, z14, z15, z16, z17, z18, z19, z20], [ar0, ar1, f3, f4, f5, ar5, ar6, ar7, ar8, ar9, ar10]) [] H → va_S (xA E) s.heap H locs → lv_has ls 4 [(0, .ref a), (1, .int p0), (2, .int p1)] → W p l e rm_X11_queue s m args below meth c H locs 0 0 Q (F0 m 26 ls [.int x14, .ref a]) := by
    intro x14 H locs ls hf15 hT hS hl
    refine pX11_0 (kq := []) (v := x14) S hK hT hS ha kf_X11_134 (Nat.le_of_ble_eq_true rfl) dX11_queue_26 (fun _ h => by cases h) (fun H locs hT hS => ?_)
    have hT : TW E K F (tl, [x14, z1, z2, u1, u2, z5, z6, z7, z8, z9, z10, z11, z12, z13, z14, z15, z16, z17, z18, z19, z20], [ar0, ar1, f3, f4, f5, ar5, ar6, ar7, ar8, ar9, ar10]) [] H := hT
    refine lv_aload_n hx hb dX11_queue_29 rfl (lv_at hl 0 rfl) ?_
    refine gX11_0 S hK hT ha kf_X11_134 dX11_queue_30 (v := x14) rfl ?_
    refine lv_iconst (v := 1) hx hb dX11_queue_33 (by decide) ?_
    refine xi_cne (tgt := 39) hx hb (rfl : Int32.toInt x14 = x14.toInt) ((by decide) : Int32.toInt 1 = (1 : Int)) dX11_queue_34 (by decide) (fun c16 => ?_) (fun c16 => ?_)
    · refine lv_aload_n hx hb dX11_queue_39 rfl (lv_at hl 0 rfl) ?_
      refine gX11_17 S hK hT ha kf_X11_51 dX11_queue_40 (fun hk17 => ?_)
      refine lv_iload_n hx hb dX11_queue_43 rfl (lv_at hl 1 rfl) ?_
      refine tld_0 S hK hT hk17 (at_43 (f := f4) rfl) (by decide) (z_X11_queue_2 p0.toInt u2.toInt x11.toInt x14.toInt (fV ar1 f4 f5) t6 t13 (hf15).1 (hf15).2 c16 (xr p0) (xr u2) (xr x11) (xr x14)) dX11_queue_44 (fun x18 w19 o20 => ?_)
      have v22 : 0 ≤ x18.toInt ∧ x18.toInt ≤ 11 ∧ 0 ≤ (aI ar1 (10 * x18.toInt + (0 : Int))) := fV_rule (f4 := f5) w19 (z_X11_queue_3 p0.toInt u2.toInt x11.toInt x14.toInt (fV ar1 f4 f5) t6 t13 (hf15).1 (hf15).2 c16 (xr p0) (xr u2) (xr x11) (xr x14))
      have v23 : (-1 ≤ (aI ar1 (10 * x18.toInt + (0 : Int))) ∧ (aI ar1 (10 * x18.toInt + (0 : Int))) ≤ 5) ∧ (0 ≤ (aI ar1 (10 * x18.toInt + (1 : Int))) ∧ (aI ar1 (10 * x18.toInt + (1 : Int))) ≤ 2) ∧ (0 ≤ (aI ar1 (10 * x18.toInt + (2 : Int))) ∧ (aI ar1 (10 * x18.toInt + (2 : Int))) ≤ 2) ∧ (-1 ≤ (aI ar1 (10 * x18.toInt + (3 : Int))) ∧ (aI ar1 (10 * x18.toInt + (3 : Int))) ≤ 2) ∧ ((aI ar1 (10 * x18.toInt + (0 : Int))) = 1 ∨ (aI ar1 (10 * x18.toInt + (0 : Int))) = 3 ∨ (aI ar1 (10 * x18.toInt + (0 : Int))) = 4 → 0 ≤ (aI ar1 (10 * x18.toInt + (3 : Int)))) := RV.row hR (z_X11_queue_4 x18.toInt (aI ar1 (10 * x18.toInt + (0 : Int))) (aI f4 p0.toInt) w19 v22 (xr x18))
      refine lv_aload_n hx hb dX11_queue_45 rfl (lv_at hl 0 rfl) ?_
      refine gX11_18 S hK hT ha kf_X11_54 dX11_queue_46 (fun hk24 => ?_)
      refine lv_iload_n hx hb dX11_queue_49 rfl (lv_at hl 1 rfl) ?_
      refine tld_0 S hK hT hk24 (at_44 (f := f5) rfl) (by decide) (z_X11_queue_5 p0.toInt u2.toInt x11.toInt x14.toInt (fV ar1 f4 f5) t6 t13 (hf15).1 (hf15).2 c16 (xr p0) (xr u2) (xr x11) (xr x14)) dX11_queue_50 (fun x25 w26 o27 => ?_)
      have v29 : -99 ≤ x25.toInt ∧ x25.toInt ≤ 99 ∧ (aF ar1 x18.toInt) ≤ x25.toInt ∧ x25.toInt ≤ (aL ar1 x18.toInt) := fV_sub w19 w26 (z_X11_queue_6 p0.toInt u2.toInt x11.toInt x14.toInt (fV ar1 f4 f5) t6 t13 (hf15).1 (hf15).2 c16 (xr p0) (xr u2) (xr x11) (xr x14))
      refine x_clp (x_runS (As := [.int x18, .int x25]) (rest := []) S (c_X11_placeOf l E K F tl x14 z1 z2 u1 u2 z5 z6 z7 z8 z9 z10 z11 z12 z13 z14 z15 z16 z17 z18 z19 z20 ar0 ar1 f3 f4 f5 ar5 ar6 ar7 ar8 ar9 ar10 H x18 x25) ms_X11_placeOf km_X11_186 rfl rfl ⟨Nat.le_of_ble_eq_true rfl, Nat.le_of_ble_eq_true rfl⟩ hK (fun _ => XPh.blind) (fun U hU hW => XPh.at hK hz hS hT hU hW) rfl hl.1 (Nat.le_of_ble_eq_true rfl) dX11_queue_51 ⟨Nat.le_of_ble_eq_true rfl, Nat.le_of_ble_eq_true rfl⟩) hS ?_
      rintro _ _ locs ⟨x31, rfl, t30⟩ hS
      have t30 : 0 ≤ x18.toInt ∧ x18.toInt ≤ 11 ∧ -99 ≤ x25.toInt ∧ x25.toInt ≤ 99 → x31.toInt = 199 * x18.toInt + x25.toInt + 99 := t30
      refine lv_istore_n (lv' := [(3, .int x31), (0, .ref a), (1, .int p0), (2, .int p1)]) hx hb dX11_queue_54 rfl hl (by decide) rfl (fun ls hl => ?_)
      refine lv_iload_n hx hb dX11_queue_55 rfl (lv_at hl 3 rfl) ?_
      rcases ((z_X11_queue_7 p1.toInt (xr p1)) : (p1.toInt < 0 ∨ 4 < p1.toInt) ∨ (p1.toInt = 0) ∨ (p1.toInt = 1) ∨ (p1.toInt = 2) ∨ (p1.toInt = 3) ∨ (p1.toInt = 4)) with c33 | c33 | c33 | c33 | c33 | c33
      · refine lv_tableOut (tgt := 150) hx hb dX11_queue_56 c33 (by decide) ?_
        refine lv_ldc (v := (-2147483648)) hx hb S.2.2.2.1 (S.2.2.2.2 _ (List.mem_cons_of_mem _ kc_X11_57)) dX11_queue_150 ?_
        exact x_ri hx hb hr hlk hQ (Nat.le_of_ble_eq_true rfl) (Nat.le_of_ble_eq_true rfl) hS dX11_queue_152 (x14, u1, u2, f3, f4, f5) ⟨_, rfl⟩ hT.nil
      · refine lv_tableIn (off := 36) (tgt := 92) hx hb dX11_queue_56 (by rw [c33]; decide) (by rw [c33]; decide) (by rw [c33]; rfl) (by decide) ?_
        refine lv_aload_n hx hb dX11_queue_92 rfl (lv_at hl 1 rfl) ?_
        refine gX11_17 S hK hT ha kf_X11_51 dX11_queue_93 (fun hk34 => ?_)
        refine lv_iload_n hx hb dX11_queue_96 rfl (lv_at hl 2 rfl) ?_
        refine tld_0 S hK hT hk34 (at_43 (f := f4) rfl) (by decide) (z_X11_queue_8 p0.toInt u2.toInt x11.toInt x14.toInt (fV ar1 f4 f5) t6 t13 (hf15).1 (hf15).2 c16 (xr p0) (xr u2) (xr x11) (xr x14)) dX11_queue_97 (fun x35 w36 o37 => ?_)
        have v39 : 0 ≤ x35.toInt ∧ x35.toInt ≤ 11 ∧ 0 ≤ (aI ar1 (10 * x35.toInt + (0 : Int))) := fV_rule (f4 := f5) w36 (z_X11_queue_9 p0.toInt u2.toInt x11.toInt x14.toInt (fV ar1 f4 f5) t6 t13 (hf15).1 (hf15).2 c16 (xr p0) (xr u2) (xr x11) (xr x14))
        have v40 : (-1 ≤ (aI ar1 (10 * x35.toInt + (0 : Int))) ∧ (aI ar1 (10 * x35.toInt + (0 : Int))) ≤ 5) ∧ (0 ≤ (aI ar1 (10 * x35.toInt + (1 : Int))) ∧ (aI ar1 (10 * x35.toInt + (1 : Int))) ≤ 2) ∧ (0 ≤ (aI ar1 (10 * x35.toInt + (2 : Int))) ∧ (aI ar1 (10 * x35.toInt + (2 : Int))) ≤ 2) ∧ (-1 ≤ (aI ar1 (10 * x35.toInt + (3 : Int))) ∧ (aI ar1 (10 * x35.toInt + (3 : Int))) ≤ 2) ∧ ((aI ar1 (10 * x35.toInt + (0 : Int))) = 1 ∨ (aI ar1 (10 * x35.toInt + (0 : Int))) = 3 ∨ (aI ar1 (10 * x35.toInt + (0 : Int))) = 4 → 0 ≤ (aI ar1 (10 * x35.toInt + (3 : Int)))) := RV.row hR (z_X11_queue_10 x18.toInt x25.toInt x31.toInt x35.toInt (aF ar1 x18.toInt) (aI ar1 (10 * x18.toInt + (0 : Int))) (aI ar1 (10 * x18.toInt + (3 : Int))) (aI ar1 (10 * x35.toInt + (0 : Int))) (aI f4 p0.toInt) (aI f5 p0.toInt) (aL ar1 x18.toInt) w19 v22 (v23).1 (v23).2.2.2.1 (v23).2.2.2.2 w26 v29 t30 w36 v39 (xr x18) (xr x25) (xr x31) (xr x35))
        exact x_ri hx hb hr hlk hQ (Nat.le_of_ble_eq_true rfl) (Nat.le_of_ble_eq_true rfl) hS dX11_queue_98 (x14, u1, u2, f3, f4, f5) ⟨_, rfl⟩ hT.nil
      · refine lv_tableIn (off := 43) (tgt := 99) hx hb dX11_queue_56 (by rw [c33]; decide) (by rw [c33]; decide) (by rw [c33]; rfl) (by decide) ?_
        refine lv_aload_n hx hb dX11_queue_99 rfl (lv_at hl 1 rfl) ?_
        refine gX11_18 S hK hT ha kf_X11_54 dX11_queue_100 (fun hk41 => ?_)
        refine lv_iload_n hx hb dX11_queue_103 rfl (lv_at hl 2 rfl) ?_
        refine tld_0 S hK hT hk41 (at_44 (f := f5) rfl) (by decide) (z_X11_queue_11 p0.toInt u2.toInt x11.toInt x14.toInt (fV ar1 f4 f5) t6 t13 (hf15).1 (hf15).2 c16 (xr p0) (xr u2) (xr x11) (xr x14)) dX11_queue_104 (fun x42 w43 o44 => ?_)
        have v46 : -99 ≤ x42.toInt ∧ x42.toInt ≤ 99 ∧ (aF ar1 x18.toInt) ≤ x42.toInt ∧ x42.toInt ≤ (aL ar1 x18.toInt) := fV_sub w19 w43 (z_X11_queue_12 p0.toInt u2.toInt x11.toInt x14.toInt (fV ar1 f4 f5) t6 t13 (hf15).1 (hf15).2 c16 (xr p0) (xr u2) (xr x11) (xr x14))
        exact x_ri hx hb hr hlk hQ (Nat.le_of_ble_eq_true rfl) (Nat.le_of_ble_eq_true rfl) hS dX11_queue_105 (x14, u1, u2, f3, f4, f5) ⟨_, rfl⟩ hT.nil
      · refine lv_tableIn (off := 50) (tgt := 106) hx hb dX11_queue_56 (by rw [c33]; decide) (by rw [c33]; decide) (by rw [c33]; rfl) (by decide) ?_
        refine lv_aload_n hx hb dX11_queue_106 rfl (lv_at hl 1 rfl) ?_
        refine gX11_13 S hK hT ha kf_X11_42 dX11_queue_107 (fun hk47 => ?_)
        refine lv_iload_n hx hb dX11_queue_110 rfl (lv_at hl 0 rfl) ?_
        refine al_0 S hK hT hk47 ar_38 (by decide) (z_X11_queue_13 x18.toInt x25.toInt x31.toInt (aF ar1 x18.toInt) (aI ar1 (10 * x18.toInt + (0 : Int))) (aI ar1 (10 * x18.toInt + (3 : Int))) (aI f4 p0.toInt) (aI f5 p0.toInt) (aL ar1 x18.toInt) w19 v22 (v23).1 (v23).2.2.2.1 (v23).2.2.2.2 w26 v29 t30 (xr x18) (xr x25) (xr x31)) dX11_queue_111 (fun x48 o49 => ?_)
        exact x_ri hx hb hr hlk hQ (Nat.le_of_ble_eq_true rfl) (Nat.le_of_ble_eq_true rfl) hS dX11_queue_112 (x14, u1, u2, f3, f4, f5) ⟨_, rfl⟩ hT.nil
      · refine lv_tableIn (off := 57) (tgt := 113) hx hb dX11_queue_56 (by rw [c33]; decide) (by rw [c33]; decide) (by rw [c33]; rfl) (by decide) ?_
        refine lv_aload_n hx hb dX11_queue_113 rfl (lv_at hl 1 rfl) ?_
        refine gX11_11 S hK hT ha kf_X11_36 dX11_queue_114 (fun hk50 => ?_)
        refine lv_iload_n hx hb dX11_queue_117 rfl (lv_at hl 0 rfl) ?_
        refine al_0 S hK hT hk50 ar_38 (by decide) (z_X11_queue_14 x18.toInt x25.toInt x31.toInt (aF ar1 x18.toInt) (aI ar1 (10 * x18.toInt + (0 : Int))) (aI ar1 (10 * x18.toInt + (3 : Int))) (aI f4 p0.toInt) (aI f5 p0.toInt) (aL ar1 x18.toInt) w19 v22 (v23).1 (v23).2.2.2.1 (v23).2.2.2.2 w26 v29 t30 (xr x18) (xr x25) (xr x31)) dX11_queue_118 (fun x51 o52 => ?_)
        exact x_ri hx hb hr hlk hQ (Nat.le_of_ble_eq_true rfl) (Nat.le_of_ble_eq_true rfl) hS dX11_queue_119 (x14, u1, u2, f3, f4, f5) ⟨_, rfl⟩ hT.nil
      · refine lv_tableIn (off := 64) (tgt := 120) hx hb dX11_queue_56 (by rw [c33]; decide) (by rw [c33]; decide) (by rw [c33]; rfl) (by decide) ?_
        refine lv_aload_n hx hb dX11_queue_120 rfl (lv_at hl 1 rfl) ?_
        refine lv_aload_n hx hb dX11_queue_121 rfl (lv_at hl 1 rfl) ?_
        refine gX11_17 S hK hT ha kf_X11_51 dX11_queue_122 (fun hk53 => ?_)
        refine lv_iload_n hx hb dX11_queue_125 rfl (lv_at hl 2 rfl) ?_
        refine tld_0 S hK hT hk53 (at_43 (f := f4) rfl) (by decide) (z_X11_queue_15 p0.toInt u2.toInt x11.toInt x14.toInt (fV ar1 f4 f5) t6 t13 (hf15).1 (hf15).2 c16 (xr p0) (xr u2) (xr x11) (xr x14)) dX11_queue_126 (fun x54 w55 o56 => ?_)
        have v58 : 0 ≤ x54.toInt ∧ x54.toInt ≤ 11 ∧ 0 ≤ (aI ar1 (10 * x54.toInt + (0 : Int))) := fV_rule (f4 := f5) w55 (z_X11_queue_16 p0.toInt u2.toInt x11.toInt x14.toInt (fV ar1 f4 f5) t6 t13 (hf15).1 (hf15).2 c16 (xr p0) (xr u2) (xr x11) (xr x14))
        have v59 : (-1 ≤ (aI ar1 (10 * x54.toInt + (0 : Int))) ∧ (aI ar1 (10 * x54.toInt + (0 : Int))) ≤ 5) ∧ (0 ≤ (aI ar1 (10 * x54.toInt + (1 : Int))) ∧ (aI ar1 (10 * x54.toInt + (1 : Int))) ≤ 2) ∧ (0 ≤ (aI ar1 (10 * x54.toInt + (2 : Int))) ∧ (aI ar1 (10 * x54.toInt + (2 : Int))) ≤ 2) ∧ (-1 ≤ (aI ar1 (10 * x54.toInt + (3 : Int))) ∧ (aI ar1 (10 * x54.toInt + (3 : Int))) ≤ 2) ∧ ((aI ar1 (10 * x54.toInt + (0 : Int))) = 1 ∨ (aI ar1 (10 * x54.toInt + (0 : Int))) = 3 ∨ (aI ar1 (10 * x54.toInt + (0 : Int))) = 4 → 0 ≤ (aI ar1 (10 * x54.toInt + (3 : Int)))) := RV.row hR (z_X11_queue_17 x18.toInt x25.toInt x31.toInt x54.toInt (aF ar1 x18.toInt) (aI ar1 (10 * x18.toInt + (0 : Int))) (aI ar1 (10 * x18.toInt + (3 : Int))) (aI ar1 (10 * x54.toInt + (0 : Int))) (aI f4 p0.toInt) (aI f5 p0.toInt) (aL ar1 x18.toInt) w19 v22 (v23).1 (v23).2.2.2.1 (v23).2.2.2.2 w26 v29 t30 w55 v58 (xr x18) (xr x25) (xr x31) (xr x54))
        refine lv_aload_n hx hb dX11_queue_127 rfl (lv_at hl 1 rfl) ?_
        refine gX11_18 S hK hT ha kf_X11_54 dX11_queue_128 (fun hk60 => ?_)
        refine lv_iload_n hx hb dX11_queue_131 rfl (lv_at hl 2 rfl) ?_
        refine tld_0 S hK hT hk60 (at_44 (f := f5) rfl) (by decide) (z_X11_queue_18 p0.toInt u2.toInt x11.toInt x14.toInt (fV ar1 f4 f5) t6 t13 (hf15).1 (hf15).2 c16 (xr p0) (xr u2) (xr x11) (xr x14)) dX11_queue_132 (fun x61 w62 o63 => ?_)
        have v65 : -99 ≤ x61.toInt ∧ x61.toInt ≤ 99 ∧ (aF ar1 x54.toInt) ≤ x61.toInt ∧ x61.toInt ≤ (aL ar1 x54.toInt) := fV_sub w55 w62 (z_X11_queue_19 p0.toInt u2.toInt x11.toInt x14.toInt (fV ar1 f4 f5) t6 t13 (hf15).1 (hf15).2 c16 (xr p0) (xr u2) (xr x11) (xr x14))
        refine lv_aload_n hx hb dX11_queue_133 rfl (lv_at hl 1 rfl) ?_
        refine gX11_1 S hK hT ha kf_X11_9 dX11_queue_134 (fun hk66 => ?_)
        refine lv_iconst (v := 0) hx hb dX11_queue_137 (by decide) ?_
        refine x_clp (x_runV (b := a) (As := [.int x54, .int x61, .ref (F a 1), .int 0]) (rest := []) S (c_X11_fails l E K F tl x14 z1 z2 u1 u2 z5 z6 z7 z8 z9 z10 z11 z12 z13 z14 z15 z16 z17 z18 z19 z20 ar0 ar1 f3 f4 f5 ar5 ar6 ar7 ar8 ar9 ar10 H a x54 x61 (F a 1) 0 ha (XO.a hk66 (by decide)) hR (z_X11_queue_20 x18.toInt x25.toInt x31.toInt x54.toInt x61.toInt (aF ar1 x18.toInt) (aF ar1 x54.toInt) (aI ar1 (10 * x18.toInt + (0 : Int))) (aI ar1 (10 * x18.toInt + (3 : Int))) (aI ar1 (10 * x54.toInt + (0 : Int))) (aI ar1 (10 * x54.toInt + (3 : Int))) (aI f4 p0.toInt) (aI f5 p0.toInt) (aL ar1 x18.toInt) (aL ar1 x54.toInt) w19 v22 (v23).1 (v23).2.2.2.1 (v23).2.2.2.2 w26 v29 t30 w55 v58 (v59).1 (v59).2.2.2.1 (v59).2.2.2.2 w62 v65 (xr x18) (xr x25) (xr x31) (xr x54) (xr x61)) (z_X11_queue_21 x18.toInt x25.toInt x31.toInt x54.toInt x61.toInt (aF ar1 x18.toInt) (aF ar1 x54.toInt) (aI ar1 (10 * x18.toInt + (0 : Int))) (aI ar1 (10 * x18.toInt + (3 : Int))) (aI ar1 (10 * x54.toInt + (0 : Int))) (aI ar1 (10 * x54.toInt + (3 : Int))) (aI f4 p0.toInt) (aI f5 p0.toInt) (aL ar1 x18.toInt) (aL ar1 x54.toInt) w19 v22 (v23).1 (v23).2.2.2.1 (v23).2.2.2.2 w26 v29 t30 w55 v58 (v59).1 (v59).2.2.2.1 (v59).2.2.2.2 w62 v65 (xr x18) (xr x25) (xr x31) (xr x54) (xr x61)) (z_X11_queue_22 x18.toInt x25.toInt x31.toInt x54.toInt x61.toInt (aF ar1 x18.toInt) (aF ar1 x54.toInt) (aI ar1 (10 * x18.toInt + (0 : Int))) (aI ar1 (10 * x18.toInt + (3 : Int))) (aI ar1 (10 * x54.toInt + (0 : Int))) (aI ar1 (10 * x54.toInt + (3 : Int))) (aI f4 p0.toInt) (aI f5 p0.toInt) (aL ar1 x18.toInt) (aL ar1 x54.toInt) w19 v22 (v23).1 (v23).2.2.2.1 (v23).2.2.2.2 w26 v29 t30 w55 v58 (v59).1 (v59).2.2.2.1 (v59).2.2.2.2 w62 v65 (xr x18) (xr x25) (xr x31) (xr x54) (xr x61))) mv_X11_fails km_X11_221 rfl rfl ⟨Nat.le_of_ble_eq_true rfl, Nat.le_of_ble_eq_true rfl⟩ (rc_13 hK hT ha) hK (fun _ => XPh.blind) (fun U hU hW => XPh.at hK hz hS hT hU hW) rfl hl.1 (Nat.le_of_ble_eq_true rfl) dX11_queue_138 ⟨Nat.le_of_ble_eq_true rfl, Nat.le_of_ble_eq_true rfl⟩) hS ?_
        rintro _ _ locs ⟨x67, rfl, b68⟩ hS
        refine xi_zeq (tgt := 148) hx hb (rfl : Int32.toInt x67 = x67.toInt) dX11_queue_141 (by decide) (fun c69 => ?_) (fun c69 => ?_)
        · refine lv_iconst (v := 0) hx hb dX11_queue_148 (by decide) ?_
          exact x_ri hx hb hr hlk hQ (Nat.le_of_ble_eq_true rfl) (Nat.le_of_ble_eq_true rfl) hS dX11_queue_149 (x14, u1, u2, f3, f4, f5) ⟨_, rfl⟩ hT.nil
        · refine lv_iconst (v := 1) hx hb dX11_queue_144 (by decide) ?_
          refine lv_goto (tgt := 149) hx hb dX11_queue_145 (by decide) ?_
          exact x_ri hx hb hr hlk hQ (Nat.le_of_ble_eq_true rfl) (Nat.le_of_ble_eq_true rfl) hS dX11_queue_149 (x14, u1, u2, f3, f4, f5) ⟨_, rfl⟩ hT.nil
    · refine lv_iconst (v := 0) hx hb dX11_queue_37 (by decide) ?_
      exact x_ri hx hb hr hlk hQ (Nat.le_of_ble_eq_true rfl) (Nat.le_of_ble_eq_true rfl) hS dX11_queue_38 (x14, u1, u2, f3, f4, f5) ⟨_, rfl⟩ hT.nil
  refine xi_zeq (tgt := 25) hx hb (rfl : Int32.toInt x11 = x11.toInt) dX11_queue_18 (by decide) (fun c70 => ?_) (fun c70 => ?_)
  · refine lv_iconst (v := 1) hx hb dX11_queue_25 (by decide) ?_
    exact J26 1 _ _ _ (z_X11_queue_23 p0.toInt u2.toInt x11.toInt (fV ar1 f4 f5) t6 t13 c70 (xr p0) (xr u2) (xr x11)) hT.nil hS (lv_sub hl [0, 1, 2] rfl)
  · refine lv_iconst (v := 0) hx hb dX11_queue_21 (by decide) ?_
    refine lv_goto (tgt := 26) hx hb dX11_queue_22 (by decide) ?_
    exact J26 0 _ _ _ (z_X11_queue_24 p0.toInt u2.toInt x11.toInt (fV ar1 f4 f5) t6 t13 c70 (xr p0) (xr u2) (xr x11)) hT.nil hS (lv_sub hl [0, 1, 2] rfl)

theorem z_X11_group_1 (a0 : Int) (a1 : Int) (h0 : 0 ≤ a0 ∧ a0 < a1 ∧ 1 ≤ a1) (h1 : (1 : Int) ≤ a1) (r0 : -2147483648 ≤ a0 ∧ a0 < 2147483648) (r1 : -2147483648 ≤ a1 ∧ a1 < 2147483648) : ¬ (2147483648 - a1 < ((0 : Nat) : Int)) := by omega
theorem z_X11_group_2 (a0 : Int) (a1 : Int) (a2 : Int) (a3 : Int) (a4 : Int) (a5 : Nat) (a6 : Nat) (h0 : 0 ≤ a0 ∧ a0 ≤ 2388 ∧ a0 ≤ ((a6 : Nat) : Int)) (h1 : 0 ≤ a1 ∧ a1 < a2 ∧ 1 ≤ a2) (h2 : (1 : Int) ≤ a2) (h3 : 2147483648 - a2 < ((a5 + 1 : Nat) : Int)) (h4 : ¬ (a0 < a2)) (h5 : 0 ≤ a3 ∧ a3 ≤ a2) (h6 : a4 = a2 + 1 ∨ a2 + 1 < -2147483648 ∨ 2147483648 ≤ a2 + 1) (r0 : -2147483648 ≤ a0 ∧ a0 < 2147483648) (r1 : -2147483648 ≤ a1 ∧ a1 < 2147483648) (r2 : -2147483648 ≤ a2 ∧ a2 < 2147483648) (r3 : -2147483648 ≤ a3 ∧ a3 < 2147483648) (r4 : -2147483648 ≤ a4 ∧ a4 < 2147483648) : 0 ≤ a3 ∧ a3 < a4 ∧ 1 ≤ a4 := by omega
theorem z_X11_group_3 (a0 : Int) (a1 : Int) (a2 : Int) (a3 : Int) (a4 : Int) (a5 : Nat) (a6 : Nat) (h0 : 0 ≤ a0 ∧ a0 ≤ 2388 ∧ a0 ≤ ((a6 : Nat) : Int)) (h1 : 0 ≤ a1 ∧ a1 < a2 ∧ 1 ≤ a2) (h2 : (1 : Int) ≤ a2) (h3 : 2147483648 - a2 < ((a5 + 1 : Nat) : Int)) (h4 : ¬ (a0 < a2)) (h5 : 0 ≤ a3 ∧ a3 ≤ a2) (h6 : a4 = a2 + 1 ∨ a2 + 1 < -2147483648 ∨ 2147483648 ≤ a2 + 1) (r0 : -2147483648 ≤ a0 ∧ a0 < 2147483648) (r1 : -2147483648 ≤ a1 ∧ a1 < 2147483648) (r2 : -2147483648 ≤ a2 ∧ a2 < 2147483648) (r3 : -2147483648 ≤ a3 ∧ a3 < 2147483648) (r4 : -2147483648 ≤ a4 ∧ a4 < 2147483648) : (1 : Int) ≤ a4 := by omega
theorem z_X11_group_4 (a0 : Int) (a1 : Int) (a2 : Int) (a3 : Int) (a4 : Int) (a5 : Nat) (a6 : Nat) (h0 : 0 ≤ a0 ∧ a0 ≤ 2388 ∧ a0 ≤ ((a6 : Nat) : Int)) (h1 : 0 ≤ a1 ∧ a1 < a2 ∧ 1 ≤ a2) (h2 : (1 : Int) ≤ a2) (h3 : 2147483648 - a2 < ((a5 + 1 : Nat) : Int)) (h4 : ¬ (a0 < a2)) (h5 : 0 ≤ a3 ∧ a3 ≤ a2) (h6 : a4 = a2 + 1 ∨ a2 + 1 < -2147483648 ∨ 2147483648 ≤ a2 + 1) (r0 : -2147483648 ≤ a0 ∧ a0 < 2147483648) (r1 : -2147483648 ≤ a1 ∧ a1 < 2147483648) (r2 : -2147483648 ≤ a2 ∧ a2 < 2147483648) (r3 : -2147483648 ≤ a3 ∧ a3 < 2147483648) (r4 : -2147483648 ≤ a4 ∧ a4 < 2147483648) : 2147483648 - a4 < ((a5 : Nat) : Int) := by omega
theorem z_X11_group_5 (a0 : Int) (a1 : Int) (a2 : Int) (a3 : Nat) (a4 : Nat) (h0 : 0 ≤ a0 ∧ a0 ≤ 2388 ∧ a0 ≤ ((a4 : Nat) : Int)) (h1 : 0 ≤ a1 ∧ a1 < a2 ∧ 1 ≤ a2) (h2 : (1 : Int) ≤ a2) (h3 : 2147483648 - a2 < ((a3 + 1 : Nat) : Int)) (h4 : ¬ (a0 < a2)) (r0 : -2147483648 ≤ a0 ∧ a0 < 2147483648) (r1 : -2147483648 ≤ a1 ∧ a1 < 2147483648) (r2 : -2147483648 ≤ a2 ∧ a2 < 2147483648) : 0 ≤ a2 ∧ a2 ≤ a2 := by omega
theorem z_X11_group_6 (a0 : Int) (a1 : Int) (a2 : Int) (a3 : Nat) (a4 : Nat) (h0 : 0 ≤ a0 ∧ a0 ≤ 2388 ∧ a0 ≤ ((a4 : Nat) : Int)) (h1 : 0 ≤ a1 ∧ a1 < a2 ∧ 1 ≤ a2) (h2 : (1 : Int) ≤ a2) (h3 : 2147483648 - a2 < ((a3 + 1 : Nat) : Int)) (h4 : ¬ (a0 < a2)) (r0 : -2147483648 ≤ a0 ∧ a0 < 2147483648) (r1 : -2147483648 ≤ a1 ∧ a1 < 2147483648) (r2 : -2147483648 ≤ a2 ∧ a2 < 2147483648) : 0 ≤ a1 ∧ a1 < ((2400 : Nat) : Int) := by omega
theorem z_X11_group_7 (a0 : Int) (a1 : Int) (a2 : Int) (a3 : Nat) (a4 : Nat) (h0 : 0 ≤ a0 ∧ a0 ≤ 2388 ∧ a0 ≤ ((a4 : Nat) : Int)) (h1 : 0 ≤ a1 ∧ a1 < a2 ∧ 1 ≤ a2) (h2 : (1 : Int) ≤ a2) (h3 : 2147483648 - a2 < ((a3 + 1 : Nat) : Int)) (h4 : ¬ (a0 < a2)) (r0 : -2147483648 ≤ a0 ∧ a0 < 2147483648) (r1 : -2147483648 ≤ a1 ∧ a1 < 2147483648) (r2 : -2147483648 ≤ a2 ∧ a2 < 2147483648) : 0 ≤ a1 ∧ a1 < ((a4 : Nat) : Int) := by omega
theorem z_X11_group_8 (a0 : Int) (a1 : Int) (a2 : Int) (h0 : a0 = a2) (h1 : 0 ≤ a0 ∧ a0 ≤ 11 ∧ 0 ≤ a1) (r0 : -2147483648 ≤ a0 ∧ a0 < 2147483648) : 0 ≤ a0 ∧ a0 ≤ 11 := by omega
theorem z_X11_group_9 (a0 : Int) (a1 : Int) (a2 : Int) (a3 : Nat) (a4 : Nat) (h0 : 0 ≤ a0 ∧ a0 ≤ 2388 ∧ a0 ≤ ((a4 : Nat) : Int)) (h1 : 0 ≤ a1 ∧ a1 < a2 ∧ 1 ≤ a2) (h2 : (1 : Int) ≤ a2) (h3 : 2147483648 - a2 < ((a3 + 1 : Nat) : Int)) (h4 : ¬ (a0 < a2)) (h5 : ¬ (a2 = a0)) (r0 : -2147483648 ≤ a0 ∧ a0 < 2147483648) (r1 : -2147483648 ≤ a1 ∧ a1 < 2147483648) (r2 : -2147483648 ≤ a2 ∧ a2 < 2147483648) : 0 ≤ a2 ∧ a2 < ((2400 : Nat) : Int) := by omega
theorem z_X11_group_10 (a0 : Int) (a1 : Int) (a2 : Int) (a3 : Nat) (a4 : Nat) (h0 : 0 ≤ a0 ∧ a0 ≤ 2388 ∧ a0 ≤ ((a4 : Nat) : Int)) (h1 : 0 ≤ a1 ∧ a1 < a2 ∧ 1 ≤ a2) (h2 : (1 : Int) ≤ a2) (h3 : 2147483648 - a2 < ((a3 + 1 : Nat) : Int)) (h4 : ¬ (a0 < a2)) (h5 : ¬ (a2 = a0)) (r0 : -2147483648 ≤ a0 ∧ a0 < 2147483648) (r1 : -2147483648 ≤ a1 ∧ a1 < 2147483648) (r2 : -2147483648 ≤ a2 ∧ a2 < 2147483648) : 0 ≤ a2 ∧ a2 < ((a4 : Nat) : Int) := by omega
theorem z_X11_group_11 (a0 : Int) (a1 : Int) (a2 : Int) (h0 : a0 = a2) (h1 : 0 ≤ a0 ∧ a0 ≤ 11 ∧ 0 ≤ a1) (r0 : -2147483648 ≤ a0 ∧ a0 < 2147483648) : 0 ≤ a0 ∧ a0 ≤ 11 := by omega
theorem z_X11_group_12 (a0 : Int) (a1 : Int) (a2 : Int) (a3 : Nat) (a4 : Nat) (h0 : 0 ≤ a0 ∧ a0 ≤ 2388 ∧ a0 ≤ ((a4 : Nat) : Int)) (h1 : 0 ≤ a1 ∧ a1 < a2 ∧ 1 ≤ a2) (h2 : (1 : Int) ≤ a2) (h3 : 2147483648 - a2 < ((a3 + 1 : Nat) : Int)) (h4 : ¬ (a0 < a2)) (h5 : ¬ (a2 = a0)) (r0 : -2147483648 ≤ a0 ∧ a0 < 2147483648) (r1 : -2147483648 ≤ a1 ∧ a1 < 2147483648) (r2 : -2147483648 ≤ a2 ∧ a2 < 2147483648) : 0 ≤ a1 ∧ a1 < ((2400 : Nat) : Int) := by first | (clear h5; omega) | omega
theorem z_X11_group_13 (a0 : Int) (a1 : Int) (a2 : Int) (a3 : Nat) (a4 : Nat) (h0 : 0 ≤ a0 ∧ a0 ≤ 2388 ∧ a0 ≤ ((a4 : Nat) : Int)) (h1 : 0 ≤ a1 ∧ a1 < a2 ∧ 1 ≤ a2) (h2 : (1 : Int) ≤ a2) (h3 : 2147483648 - a2 < ((a3 + 1 : Nat) : Int)) (h4 : ¬ (a0 < a2)) (h5 : ¬ (a2 = a0)) (r0 : -2147483648 ≤ a0 ∧ a0 < 2147483648) (r1 : -2147483648 ≤ a1 ∧ a1 < 2147483648) (r2 : -2147483648 ≤ a2 ∧ a2 < 2147483648) : 0 ≤ a1 ∧ a1 < ((a4 : Nat) : Int) := by first | (clear h5; omega) | omega
theorem z_X11_group_14 (a0 : Int) (a1 : Int) (a2 : Int) (h0 : a0 = a2) (h1 : 0 ≤ a0 ∧ a0 ≤ 11 ∧ 0 ≤ a1) (r0 : -2147483648 ≤ a0 ∧ a0 < 2147483648) : 0 ≤ a0 ∧ a0 ≤ 11 := by omega
theorem z_X11_group_15 (a0 : Int) (a1 : Int) (a2 : Int) (a3 : Nat) (a4 : Nat) (h0 : 0 ≤ a0 ∧ a0 ≤ 2388 ∧ a0 ≤ ((a4 : Nat) : Int)) (h1 : 0 ≤ a1 ∧ a1 < a2 ∧ 1 ≤ a2) (h2 : (1 : Int) ≤ a2) (h3 : 2147483648 - a2 < ((a3 + 1 : Nat) : Int)) (h4 : ¬ (a0 < a2)) (h5 : ¬ (a2 = a0)) (r0 : -2147483648 ≤ a0 ∧ a0 < 2147483648) (r1 : -2147483648 ≤ a1 ∧ a1 < 2147483648) (r2 : -2147483648 ≤ a2 ∧ a2 < 2147483648) : 0 ≤ a1 ∧ a1 ≤ a2 := by omega
abbrev rm_X11_group : Room := { frames := 5, cells := 0, slots := 0, locals := 122 }
set_option maxHeartbeats 4000000 in
set_option maxRecDepth 100000 in
theorem c_X11_group (l : Launch) (E : XE) (K : Nat → Nat) (F : Nat → Nat → Nat) (tl z0 z1 z2 z3 z4 z5 z6 z7 z8 z9 z10 z11 z12 z13 z14 z15 z16 z17 z18 z19 z20 : Int32) (ar0 ar1 ar2 ar3 ar4 ar5 ar6 ar7 ar8 ar9 ar10 : Nat → Int32) (a : Nat) (p0 : Int32) (p1 : Int32) (ha : K a = 13) (hR : RV ar1) : Met l yX11_group (xw yX11_group cX11_group 6 (some .int)) rm_X11_group (va_Pc [.ref a, .int p0, .int p1] (XP E K F (tl, [z0, z1, z2, z3, z4, z5, z6, z7, z8, z9, z10, z11, z12, z13, z14, z15, z16, z17, z18, z19, z20], [ar0, ar1, ar2, ar3, ar4, ar5, ar6, ar7, ar8, ar9, ar10]))) (XQ E (fun v (u : Int32 × Int32 × Int32 × (Nat → Int32) × (Nat → Int32) × (Nat → Int32)) => ∃ r : Int32, v = .int r) (fun u H => TW E K F (tl, [u.1, z1, z2, u.2.1, u.2.2.1, z5, z6, z7, z8, z9, z10, z11, z12, z13, z14, z15, z16, z17, z18, z19, z20], [ar0, ar1, u.2.2.2.1, u.2.2.2.2.1, u.2.2.2.2.2, ar5, ar6, ar7, ar8, ar9, ar10]) [] H)) 0 0 (xA E) := by
  refine x_enter (by decide) (Nat.le_of_ble_eq_true rfl) ?_
  intro p e s m args below meth c Q S hr hlk hnm hQ hP ls hl
  obtain ⟨hz, hK, hT⟩ := hP
  obtain ⟨hx, hb, -, -, -⟩ := id S
  obtain ⟨H, hT, hS, hgo⟩ : ∃ H : Heap, TW E K F (tl, [z0, z1, z2, z3, z4, z5, z6, z7, z8, z9, z10, z11, z12, z13, z14, z15, z16, z17, z18, z19, z20], [ar0, ar1, ar2, ar3, ar4, ar5, ar6, ar7, ar8, ar9, ar10]) [] H ∧ va_S (xA E) s.heap H [] ∧ H = s.heap := ⟨_, hT, va_S.rf, rfl⟩
  rw [← hgo]
  have hl : lv_has ls 6 [(0, .ref a), (1, .int p0), (2, .int p1)] := hl
  refine lv_aload_n hx hb dX11_group_0 rfl (lv_at hl 0 rfl) ?_
  refine lv_iconst (v := 0) hx hb dX11_group_1 (by decide) ?_
  refine pX11_0 (kq := []) (v := 0) S hK hT hS ha kf_X11_134 (Nat.le_of_ble_eq_true rfl) dX11_group_2 (fun _ h => by cases h) (fun H locs hT hS => ?_)
  have hT : TW E K F (tl, [0, z1, z2, z3, z4, z5, z6, z7, z8, z9, z10, z11, z12, z13, z14, z15, z16, z17, z18, z19, z20], [ar0, ar1, ar2, ar3, ar4, ar5, ar6, ar7, ar8, ar9, ar10]) [] H := hT
  refine lv_iload_n hx hb dX11_group_5 rfl (lv_at hl 1 rfl) ?_
  refine lv_iconst (v := (-1)) hx hb dX11_group_6 (by decide) ?_
  refine xi_clt (tgt := 20) hx hb (rfl : Int32.toInt p0 = p0.toInt) ((by decide) : Int32.toInt (-1) = (-1 : Int)) dX11_group_7 (by decide) (fun c1 => ?_) (fun c1 => ?_)
  · refine lv_iconst (v := (-1)) hx hb dX11_group_20 (by decide) ?_
    exact x_ri hx hb hr hlk hQ (Nat.le_of_ble_eq_true rfl) (Nat.le_of_ble_eq_true rfl) hS dX11_group_21 (0, z3, z4, ar2, ar3, ar4) ⟨_, rfl⟩ hT.nil
  · refine lv_iload_n hx hb dX11_group_10 rfl (lv_at hl 2 rfl) ?_
    refine lv_i2l (v := p1.toInt64) hx hb dX11_group_11 rfl ?_
    refine lv_lconst (v := (0 : Int64)) hx hb dX11_group_12 (by decide) ?_
    refine lv_lconst (v := (1 : Int64)) hx hb dX11_group_13 (by decide) ?_
    refine x_clp (x_runS (As := [.long p1.toInt64, .long (0 : Int64), .long (1 : Int64)]) (rest := []) S (c_X11_in l E K F tl 0 z1 z2 z3 z4 z5 z6 z7 z8 z9 z10 z11 z12 z13 z14 z15 z16 z17 z18 z19 z20 ar0 ar1 ar2 ar3 ar4 ar5 ar6 ar7 ar8 ar9 ar10 H p1.toInt64 (0 : Int64) (1 : Int64) p1.toInt (0 : Int) (1 : Int) (xl_i2l (rfl : Int32.toInt p1 = p1.toInt)) (by decide) (by decide)) ms_X11_in km_X11_139 rfl rfl ⟨Nat.le_of_ble_eq_true rfl, Nat.le_of_ble_eq_true rfl⟩ hK (fun _ => XPh.blind) (fun U hU hW => XPh.at hK hz hS hT hU hW) rfl hl.1 (Nat.le_of_ble_eq_true rfl) dX11_group_14 ⟨Nat.le_of_ble_eq_true rfl, Nat.le_of_ble_eq_true rfl⟩) hS ?_
    rintro _ _ locs ⟨x2, rfl, b3, t4⟩ hS
    have t4 : (x2.toInt = 1 ∧ (0 : Int) ≤ p1.toInt ∧ p1.toInt ≤ (1 : Int)) ∨ (x2.toInt = 0 ∧ (p1.toInt < (0 : Int) ∨ (1 : Int) < p1.toInt)) := t4
    refine xi_zne (tgt := 22) hx hb (rfl : Int32.toInt x2 = x2.toInt) dX11_group_17 (by decide) (fun c5 => ?_) (fun c5 => ?_)
    · refine lv_aload_n hx hb dX11_group_22 rfl (lv_at hl 0 rfl) ?_
      refine x_cv0 (x_runV (b := a) (As := []) (rest := []) S (c_X11_findQueue l E K F tl 0 z1 z2 z3 z4 z5 z6 z7 z8 z9 z10 z11 z12 z13 z14 z15 z16 z17 z18 z19 z20 ar0 ar1 ar2 ar3 ar4 ar5 ar6 ar7 ar8 ar9 ar10 a ha hR) mv_X11_findQueue km_X11_218 rfl rfl ⟨Nat.le_of_ble_eq_true rfl, Nat.le_of_ble_eq_true rfl⟩ (rc_13 hK hT ha) hK (fun _ => XP.blind) (fun U hU hW => XP.at hK hz hS hT hU hW) rfl hl.1 (Nat.le_of_ble_eq_true rfl) dX11_group_23 ⟨Nat.le_of_ble_eq_true rfl, Nat.le_of_ble_eq_true rfl⟩) hS ?_
      rintro ⟨u6, u7, f8, f9, f10⟩ H locs t11 hT hS
      have hT : TW E K F (tl, [0, z1, z2, u6, u7, z5, z6, z7, z8, z9, z10, z11, z12, z13, z14, z15, z16, z17, z18, z19, z20], [ar0, ar1, f8, f9, f10, ar5, ar6, ar7, ar8, ar9, ar10]) [] H := hT
      have t11 : 0 ≤ u7.toInt ∧ u7.toInt ≤ 2388 ∧ u7.toInt ≤ (((fV ar1 f9 f10) : Nat) : Int) := t11
      refine lv_iconst (v := 0) hx hb dX11_group_26 (by decide) ?_
      refine lv_istore_n (lv' := [(3, .int 0), (0, .ref a), (1, .int p0), (2, .int p1)]) hx hb dX11_group_27 rfl hl (by decide) rfl (fun ls hl => ?_)
      refine lv_iconst (v := 0) hx hb dX11_group_28 (by decide) ?_
      refine lv_istore (lv' := [(4, .int 0), (3, .int 0), (0, .ref a), (1, .int p0), (2, .int p1)]) hx hb dX11_group_29 hl (by decide) rfl (fun ls hl => ?_)
      refine lv_iconst (v := 1) hx hb dX11_group_31 (by decide) ?_
      refine lv_istore (lv' := [(5, .int 1), (4, .int 0), (3, .int 0), (0, .ref a), (1, .int p0), (2, .int p1)]) hx hb dX11_group_32 hl (by decide) rfl (fun ls hl => ?_)
      have L34 : ∀ (N17 : Nat) (x14 : Int32) (x15 : Int32) (x16 : Int32) (H : Heap) (locs : List Loc) (ls : Array Slot), 0 ≤ x15.toInt ∧ x15.toInt < x16.toInt ∧ 1 ≤ x16.toInt → (1 : Int) ≤ x16.toInt → 2147483648 - x16.toInt < ((N17 : Nat) : Int) → TW E K F (tl, [0, z1, z2, u6, u7, z5, z6, z7, z8, z9, z10, z11, z12, z13, z14, z15, z16, z17, z18, z19, z20], [ar0, ar1, f8, f9, f10, ar5, ar6, ar7, ar8, ar9, ar10]) [] H → va_S (xA E) s.heap H locs → lv_has ls 6 [(0, .ref a), (1, .int p0), (2, .int p1), (3, .int x14), (4, .int x15), (5, .int x16)] → W p l e rm_X11_group s m args below meth c H locs 0 0 Q (F0 m 34 ls []) := by
        intro N17
        induction N17 with
        | zero =>
          intro x14 x15 x16 H locs ls hf18 hf19 hm20
          exact absurd hm20 (z_X11_group_1 x15.toInt x16.toInt hf18 hf19 (xr x15) (xr x16))
        | succ N17 ih21 =>
          intro x14 x15 x16 H locs ls hf18 hf19 hm20 hT hS hl
          refine lv_iload hx hb dX11_group_34 (lv_at hl 5 rfl) ?_
          refine lv_aload_n hx hb dX11_group_36 rfl (lv_at hl 0 rfl) ?_
          refine gX11_19 S hK hT ha kf_X11_203 dX11_group_37 (v := u7) rfl ?_
          refine xi_cgt (tgt := 107) hx hb (rfl : Int32.toInt x16 = x16.toInt) (rfl : Int32.toInt u7 = u7.toInt) dX11_group_40 (by decide) (fun c22 => ?_) (fun c22 => ?_)
          · refine lv_iload_n hx hb dX11_group_107 rfl (lv_at hl 1 rfl) ?_
            refine lv_iconst (v := (-1)) hx hb dX11_group_108 (by decide) ?_
            refine xi_cne (tgt := 116) hx hb (rfl : Int32.toInt p0 = p0.toInt) ((by decide) : Int32.toInt (-1) = (-1 : Int)) dX11_group_109 (by decide) (fun c23 => ?_) (fun c23 => ?_)
            · refine lv_iconst (v := (-1)) hx hb dX11_group_116 (by decide) ?_
              exact x_ri hx hb hr hlk hQ (Nat.le_of_ble_eq_true rfl) (Nat.le_of_ble_eq_true rfl) hS dX11_group_117 (0, u6, u7, f8, f9, f10) ⟨_, rfl⟩ hT.nil
            · refine lv_iload_n hx hb dX11_group_112 rfl (lv_at hl 3 rfl) ?_
              refine lv_goto (tgt := 117) hx hb dX11_group_113 (by decide) ?_
              exact x_ri hx hb hr hlk hQ (Nat.le_of_ble_eq_true rfl) (Nat.le_of_ble_eq_true rfl) hS dX11_group_117 (0, u6, u7, f8, f9, f10) ⟨_, rfl⟩ hT.nil
          · refine lv_iload hx hb dX11_group_43 (lv_at hl 5 rfl) ?_
            refine lv_aload_n hx hb dX11_group_45 rfl (lv_at hl 0 rfl) ?_
            refine gX11_19 S hK hT ha kf_X11_203 dX11_group_46 (v := u7) rfl ?_
            have J101 : ∀ (x24 : Int32) (x25 : Int32) (H : Heap) (locs : List Loc) (ls : Array Slot), 0 ≤ x25.toInt ∧ x25.toInt ≤ x16.toInt → TW E K F (tl, [0, z1, z2, u6, u7, z5, z6, z7, z8, z9, z10, z11, z12, z13, z14, z15, z16, z17, z18, z19, z20], [ar0, ar1, f8, f9, f10, ar5, ar6, ar7, ar8, ar9, ar10]) [] H → va_S (xA E) s.heap H locs → lv_has ls 6 [(0, .ref a), (1, .int p0), (2, .int p1), (3, .int x24), (4, .int x25), (5, .int x16)] → W p l e rm_X11_group s m args below meth c H locs 0 0 Q (F0 m 101 ls []) := by
              intro x24 x25 H locs ls hf26 hT hS hl
              refine xi_iinc (n := 1) (lv' := fun z9 => [(5, .int z9), (0, .ref a), (1, .int p0), (2, .int p1), (3, .int x24), (4, .int x25)]) (k := 5) hx hb (rfl : Int32.toInt x16 = x16.toInt) (by decide) dX11_group_101 hl rfl (by decide) (fun _ => rfl) (fun x27 ls t28 hl => ?_)
              have hl : lv_has ls 6 [(5, .int x27), (0, .ref a), (1, .int p0), (2, .int p1), (3, .int x24), (4, .int x25)] := hl
              refine lv_goto (tgt := 34) hx hb dX11_group_104 (by decide) ?_
              exact ih21 x24 x25 x27 _ _ _ (z_X11_group_2 u7.toInt x15.toInt x16.toInt x25.toInt x27.toInt N17 (fV ar1 f9 f10) t11 hf18 hf19 hm20 c22 hf26 t28 (xr u7) (xr x15) (xr x16) (xr x25) (xr x27)) (z_X11_group_3 u7.toInt x15.toInt x16.toInt x25.toInt x27.toInt N17 (fV ar1 f9 f10) t11 hf18 hf19 hm20 c22 hf26 t28 (xr u7) (xr x15) (xr x16) (xr x25) (xr x27)) (z_X11_group_4 u7.toInt x15.toInt x16.toInt x25.toInt x27.toInt N17 (fV ar1 f9 f10) t11 hf18 hf19 hm20 c22 hf26 t28 (xr u7) (xr x15) (xr x16) (xr x25) (xr x27)) hT.nil hS (lv_sub hl [1, 2, 3, 4, 5, 0] rfl)
            have J69 : ∀ (H : Heap) (locs : List Loc) (ls : Array Slot), TW E K F (tl, [0, z1, z2, u6, u7, z5, z6, z7, z8, z9, z10, z11, z12, z13, z14, z15, z16, z17, z18, z19, z20], [ar0, ar1, f8, f9, f10, ar5, ar6, ar7, ar8, ar9, ar10]) [] H → va_S (xA E) s.heap H locs → lv_has ls 6 [(0, .ref a), (1, .int p0), (2, .int p1), (3, .int x14), (4, .int x15), (5, .int x16)] → W p l e rm_X11_group s m args below meth c H locs 0 0 Q (F0 m 69 ls []) := by
              intro H locs ls hT hS hl
              refine lv_iload_n hx hb dX11_group_69 rfl (lv_at hl 3 rfl) ?_
              refine lv_iload_n hx hb dX11_group_70 rfl (lv_at hl 1 rfl) ?_
              refine xi_cne (tgt := 94) hx hb (rfl : Int32.toInt x14 = x14.toInt) (rfl : Int32.toInt p0 = p0.toInt) dX11_group_71 (by decide) (fun c29 => ?_) (fun c29 => ?_)
              · refine xi_iinc (n := 1) (lv' := fun z9 => [(3, .int z9), (0, .ref a), (1, .int p0), (2, .int p1), (4, .int x15), (5, .int x16)]) (k := 3) hx hb (rfl : Int32.toInt x14 = x14.toInt) (by decide) dX11_group_94 hl rfl (by decide) (fun _ => rfl) (fun x30 ls t31 hl => ?_)
                have hl : lv_has ls 6 [(3, .int x30), (0, .ref a), (1, .int p0), (2, .int p1), (4, .int x15), (5, .int x16)] := hl
                refine lv_iload hx hb dX11_group_97 (lv_at hl 5 rfl) ?_
                refine lv_istore (lv' := [(4, .int x16), (3, .int x30), (0, .ref a), (1, .int p0), (2, .int p1), (5, .int x16)]) hx hb dX11_group_99 hl (by decide) rfl (fun ls hl => ?_)
                exact J101 x30 x16 _ _ _ (z_X11_group_5 u7.toInt x15.toInt x16.toInt N17 (fV ar1 f9 f10) t11 hf18 hf19 hm20 c22 (xr u7) (xr x15) (xr x16)) hT.nil hS (lv_sub hl [2, 3, 4, 1, 0, 5] rfl)
              · refine lv_iload_n hx hb dX11_group_74 rfl (lv_at hl 2 rfl) ?_
                refine xi_zne (tgt := 88) hx hb (rfl : Int32.toInt p1 = p1.toInt) dX11_group_75 (by decide) (fun c32 => ?_) (fun c32 => ?_)
                · refine lv_iload hx hb dX11_group_88 (lv_at hl 5 rfl) ?_
                  refine lv_iload hx hb dX11_group_90 (lv_at hl 4 rfl) ?_
                  refine xi_isub hx hb (rfl : Int32.toInt x16 = x16.toInt) (rfl : Int32.toInt x15 = x15.toInt) dX11_group_92 (fun x33 t34 => ?_)
                  exact x_ri hx hb hr hlk hQ (Nat.le_of_ble_eq_true rfl) (Nat.le_of_ble_eq_true rfl) hS dX11_group_93 (0, u6, u7, f8, f9, f10) ⟨_, rfl⟩ hT.nil
                · refine lv_aload_n hx hb dX11_group_78 rfl (lv_at hl 0 rfl) ?_
                  refine gX11_17 S hK hT ha kf_X11_51 dX11_group_79 (fun hk35 => ?_)
                  refine lv_iload hx hb dX11_group_82 (lv_at hl 4 rfl) ?_
                  refine tld_0 S hK hT hk35 (at_43 (f := f9) rfl) (by decide) (z_X11_group_6 u7.toInt x15.toInt x16.toInt N17 (fV ar1 f9 f10) t11 hf18 hf19 hm20 c22 (xr u7) (xr x15) (xr x16)) dX11_group_84 (fun x36 w37 o38 => ?_)
                  have v40 : 0 ≤ x36.toInt ∧ x36.toInt ≤ 11 ∧ 0 ≤ (aI ar1 (10 * x36.toInt + (0 : Int))) := fV_rule (f4 := f10) w37 (z_X11_group_7 u7.toInt x15.toInt x16.toInt N17 (fV ar1 f9 f10) t11 hf18 hf19 hm20 c22 (xr u7) (xr x15) (xr x16))
                  have v41 : (-1 ≤ (aI ar1 (10 * x36.toInt + (0 : Int))) ∧ (aI ar1 (10 * x36.toInt + (0 : Int))) ≤ 5) ∧ (0 ≤ (aI ar1 (10 * x36.toInt + (1 : Int))) ∧ (aI ar1 (10 * x36.toInt + (1 : Int))) ≤ 2) ∧ (0 ≤ (aI ar1 (10 * x36.toInt + (2 : Int))) ∧ (aI ar1 (10 * x36.toInt + (2 : Int))) ≤ 2) ∧ (-1 ≤ (aI ar1 (10 * x36.toInt + (3 : Int))) ∧ (aI ar1 (10 * x36.toInt + (3 : Int))) ≤ 2) ∧ ((aI ar1 (10 * x36.toInt + (0 : Int))) = 1 ∨ (aI ar1 (10 * x36.toInt + (0 : Int))) = 3 ∨ (aI ar1 (10 * x36.toInt + (0 : Int))) = 4 → 0 ≤ (aI ar1 (10 * x36.toInt + (3 : Int)))) := RV.row hR (z_X11_group_8 x36.toInt (aI ar1 (10 * x36.toInt + (0 : Int))) (aI f9 x15.toInt) w37 v40 (xr x36))
                  refine lv_goto (tgt := 93) hx hb dX11_group_85 (by decide) ?_
                  exact x_ri hx hb hr hlk hQ (Nat.le_of_ble_eq_true rfl) (Nat.le_of_ble_eq_true rfl) hS dX11_group_93 (0, u6, u7, f8, f9, f10) ⟨_, rfl⟩ hT.nil
            refine xi_ceq (tgt := 69) hx hb (rfl : Int32.toInt x16 = x16.toInt) (rfl : Int32.toInt u7 = u7.toInt) dX11_group_49 (by decide) (fun c42 => ?_) (fun c42 => ?_)
            · exact J69 _ _ _ hT.nil hS (lv_sub hl [0, 1, 2, 3, 4, 5] rfl)
            · refine lv_aload_n hx hb dX11_group_52 rfl (lv_at hl 0 rfl) ?_
              refine gX11_17 S hK hT ha kf_X11_51 dX11_group_53 (fun hk43 => ?_)
              refine lv_iload hx hb dX11_group_56 (lv_at hl 5 rfl) ?_
              refine tld_0 S hK hT hk43 (at_43 (f := f9) rfl) (by decide) (z_X11_group_9 u7.toInt x15.toInt x16.toInt N17 (fV ar1 f9 f10) t11 hf18 hf19 hm20 c22 c42 (xr u7) (xr x15) (xr x16)) dX11_group_58 (fun x44 w45 o46 => ?_)
              have v48 : 0 ≤ x44.toInt ∧ x44.toInt ≤ 11 ∧ 0 ≤ (aI ar1 (10 * x44.toInt + (0 : Int))) := fV_rule (f4 := f10) w45 (z_X11_group_10 u7.toInt x15.toInt x16.toInt N17 (fV ar1 f9 f10) t11 hf18 hf19 hm20 c22 c42 (xr u7) (xr x15) (xr x16))
              have v49 : (-1 ≤ (aI ar1 (10 * x44.toInt + (0 : Int))) ∧ (aI ar1 (10 * x44.toInt + (0 : Int))) ≤ 5) ∧ (0 ≤ (aI ar1 (10 * x44.toInt + (1 : Int))) ∧ (aI ar1 (10 * x44.toInt + (1 : Int))) ≤ 2) ∧ (0 ≤ (aI ar1 (10 * x44.toInt + (2 : Int))) ∧ (aI ar1 (10 * x44.toInt + (2 : Int))) ≤ 2) ∧ (-1 ≤ (aI ar1 (10 * x44.toInt + (3 : Int))) ∧ (aI ar1 (10 * x44.toInt + (3 : Int))) ≤ 2) ∧ ((aI ar1 (10 * x44.toInt + (0 : Int))) = 1 ∨ (aI ar1 (10 * x44.toInt + (0 : Int))) = 3 ∨ (aI ar1 (10 * x44.toInt + (0 : Int))) = 4 → 0 ≤ (aI ar1 (10 * x44.toInt + (3 : Int)))) := RV.row hR (z_X11_group_11 x44.toInt (aI ar1 (10 * x44.toInt + (0 : Int))) (aI f9 x16.toInt) w45 v48 (xr x44))
              refine lv_aload_n hx hb dX11_group_59 rfl (lv_at hl 0 rfl) ?_
              refine gX11_17 S hK hT ha kf_X11_51 dX11_group_60 (fun hk50 => ?_)
              refine lv_iload hx hb dX11_group_63 (lv_at hl 4 rfl) ?_
              refine tld_0 S hK hT hk50 (at_43 (f := f9) rfl) (by decide) (z_X11_group_12 u7.toInt x15.toInt x16.toInt N17 (fV ar1 f9 f10) t11 hf18 hf19 hm20 c22 c42 (xr u7) (xr x15) (xr x16)) dX11_group_65 (fun x51 w52 o53 => ?_)
              have v55 : 0 ≤ x51.toInt ∧ x51.toInt ≤ 11 ∧ 0 ≤ (aI ar1 (10 * x51.toInt + (0 : Int))) := fV_rule (f4 := f10) w52 (z_X11_group_13 u7.toInt x15.toInt x16.toInt N17 (fV ar1 f9 f10) t11 hf18 hf19 hm20 c22 c42 (xr u7) (xr x15) (xr x16))
              have v56 : (-1 ≤ (aI ar1 (10 * x51.toInt + (0 : Int))) ∧ (aI ar1 (10 * x51.toInt + (0 : Int))) ≤ 5) ∧ (0 ≤ (aI ar1 (10 * x51.toInt + (1 : Int))) ∧ (aI ar1 (10 * x51.toInt + (1 : Int))) ≤ 2) ∧ (0 ≤ (aI ar1 (10 * x51.toInt + (2 : Int))) ∧ (aI ar1 (10 * x51.toInt + (2 : Int))) ≤ 2) ∧ (-1 ≤ (aI ar1 (10 * x51.toInt + (3 : Int))) ∧ (aI ar1 (10 * x51.toInt + (3 : Int))) ≤ 2) ∧ ((aI ar1 (10 * x51.toInt + (0 : Int))) = 1 ∨ (aI ar1 (10 * x51.toInt + (0 : Int))) = 3 ∨ (aI ar1 (10 * x51.toInt + (0 : Int))) = 4 → 0 ≤ (aI ar1 (10 * x51.toInt + (3 : Int)))) := RV.row hR (z_X11_group_14 x51.toInt (aI ar1 (10 * x51.toInt + (0 : Int))) (aI f9 x15.toInt) w52 v55 (xr x51))
              refine xi_ceq (tgt := 101) hx hb (rfl : Int32.toInt x44 = x44.toInt) (rfl : Int32.toInt x51 = x51.toInt) dX11_group_66 (by decide) (fun c57 => ?_) (fun c57 => ?_)
              · exact J101 x14 x15 _ _ _ (z_X11_group_15 u7.toInt x15.toInt x16.toInt N17 (fV ar1 f9 f10) t11 hf18 hf19 hm20 c22 c42 (xr u7) (xr x15) (xr x16)) hT.nil hS (lv_sub hl [0, 1, 2, 3, 4, 5] rfl)
              · exact J69 _ _ _ hT.nil hS (lv_sub hl [0, 1, 2, 3, 4, 5] rfl)
      exact L34 4294967297 0 0 1 _ _ _ (by decide) (by decide) (by decide) hT.nil hS (lv_sub hl [3, 4, 5, 2, 1, 0] rfl)
    · refine lv_iconst (v := (-1)) hx hb dX11_group_20 (by decide) ?_
      exact x_ri hx hb hr hlk hQ (Nat.le_of_ble_eq_true rfl) (Nat.le_of_ble_eq_true rfl) hS dX11_group_21 (0, z3, z4, ar2, ar3, ar4) ⟨_, rfl⟩ hT.nil

theorem z_X11_asked_1 (a0 : Int) (a1 : Int) (h0 : 0 ≤ a1 ∧ a1 ≤ 2400) (h1 : a0 = -1 ∨ (0 ≤ a0 ∧ a0 < a1)) (h2 : a0 ≠ (-1 : Int)) (r0 : -2147483648 ≤ a0 ∧ a0 < 2147483648) (r1 : -2147483648 ≤ a1 ∧ a1 < 2147483648) : 0 ≤ a0 ∧ a0 < ((2400 : Nat) : Int) := by omega
theorem z_X11_asked_2 (a0 : Int) (a1 : Int) (h0 : 0 ≤ a1 ∧ a1 ≤ 2400) (h1 : a0 = -1 ∨ (0 ≤ a0 ∧ a0 < a1)) (h2 : a0 ≠ (-1 : Int)) (r0 : -2147483648 ≤ a0 ∧ a0 < 2147483648) (r1 : -2147483648 ≤ a1 ∧ a1 < 2147483648) : 0 ≤ a0 ∧ a0 < ((2400 : Nat) : Int) := by omega
theorem z_X11_asked_3 (a0 : Int) (a1 : Int) (h0 : 0 ≤ a1 ∧ a1 ≤ 2400) (h1 : a0 = (-1 : Int)) (r0 : -2147483648 ≤ a0 ∧ a0 < 2147483648) (r1 : -2147483648 ≤ a1 ∧ a1 < 2147483648) : a0 = -1 ∨ (0 ≤ a0 ∧ a0 < a1) := by omega
theorem z_X11_asked_4 (a0 : Int) (h0 : 0 ≤ a0 ∧ a0 ≤ 2400) (r0 : -2147483648 ≤ a0 ∧ a0 < 2147483648) : -2147483648 ≤ a0 ∧ a0 < 2147483648 := by omega
theorem z_X11_asked_5 (a0 : Int) (a1 : Int) (a2 : Int) (h0 : 0 ≤ a2 ∧ a2 ≤ 2400) (h1 : ¬ (a0 = (-1 : Int))) (h2 : (a1 = 1 ∧ (0 : Int) ≤ a0 ∧ a0 ≤ (a2 - (1 : Int))) ∨ (a1 = 0 ∧ (a0 < (0 : Int) ∨ (a2 - (1 : Int)) < a0))) (h3 : a1 ≠ 0) (r0 : -2147483648 ≤ a0 ∧ a0 < 2147483648) (r1 : -2147483648 ≤ a1 ∧ a1 < 2147483648) (r2 : -2147483648 ≤ a2 ∧ a2 < 2147483648) : a0 = -1 ∨ (0 ≤ a0 ∧ a0 < a2) := by first | (clear h3; omega) | omega
abbrev rm_X11_asked : Room := { frames := 1, cells := 0, slots := 0, locals := 25 }
set_option maxHeartbeats 4000000 in
set_option maxRecDepth 100000 in
theorem c_X11_asked (l : Launch) (E : XE) (K : Nat → Nat) (F : Nat → Nat → Nat) (tl z0 z1 z2 z3 z4 z5 z6 z7 z8 z9 z10 z11 z12 z13 z14 z15 z16 z17 z18 z19 z20 : Int32) (ar0 ar1 ar2 ar3 ar4 ar5 ar6 ar7 ar8 ar9 ar10 : Nat → Int32) (a : Nat) (p0 : Int32) (p1 : Int32) (ha : K a = 13) (e0 : 0 ≤ z12.toInt ∧ z12.toInt ≤ 2400) : Met l yX11_asked (xw yX11_asked cX11_asked 3 (some .int)) rm_X11_asked (va_Pc [.ref a, .int p0, .int p1] (XP E K F (tl, [z0, z1, z2, z3, z4, z5, z6, z7, z8, z9, z10, z11, z12, z13, z14, z15, z16, z17, z18, z19, z20], [ar0, ar1, ar2, ar3, ar4, ar5, ar6, ar7, ar8, ar9, ar10]))) (XQ E (fun v (u : Int32) => ∃ r : Int32, v = .int r) (fun u H => TW E K F (tl, [u, z1, z2, z3, z4, z5, z6, z7, z8, z9, z10, z11, z12, z13, z14, z15, z16, z17, z18, z19, z20], [ar0, ar1, ar2, ar3, ar4, ar5, ar6, ar7, ar8, ar9, ar10]) [] H)) 0 0 (xA E) := by
  refine x_enter (by decide) (Nat.le_of_ble_eq_true rfl) ?_
  intro p e s m args below meth c Q S hr hlk hnm hQ hP ls hl
  obtain ⟨hz, hK, hT⟩ := hP
  obtain ⟨hx, hb, -, -, -⟩ := id S
  obtain ⟨H, hT, hS, hgo⟩ : ∃ H : Heap, TW E K F (tl, [z0, z1, z2, z3, z4, z5, z6, z7, z8, z9, z10, z11, z12, z13, z14, z15, z16, z17, z18, z19, z20], [ar0, ar1, ar2, ar3, ar4, ar5, ar6, ar7, ar8, ar9, ar10]) [] H ∧ va_S (xA E) s.heap H [] ∧ H = s.heap := ⟨_, hT, va_S.rf, rfl⟩
  rw [← hgo]
  have hl : lv_has ls 3 [(0, .ref a), (1, .int p0), (2, .int p1)] := hl
  refine lv_aload_n hx hb dX11_asked_0 rfl (lv_at hl 0 rfl) ?_
  refine lv_iconst (v := 0) hx hb dX11_asked_1 (by decide) ?_
  refine pX11_0 (kq := []) (v := 0) S hK hT hS ha kf_X11_134 (Nat.le_of_ble_eq_true rfl) dX11_asked_2 (fun _ h => by cases h) (fun H locs hT hS => ?_)
  have hT : TW E K F (tl, [0, z1, z2, z3, z4, z5, z6, z7, z8, z9, z10, z11, z12, z13, z14, z15, z16, z17, z18, z19, z20], [ar0, ar1, ar2, ar3, ar4, ar5, ar6, ar7, ar8, ar9, ar10]) [] H := hT
  refine lv_iload_n hx hb dX11_asked_5 rfl (lv_at hl 2 rfl) ?_
  refine lv_i2l (v := p1.toInt64) hx hb dX11_asked_6 rfl ?_
  refine lv_lconst (v := (0 : Int64)) hx hb dX11_asked_7 (by decide) ?_
  refine lv_ldc2 (v := 2) hx hb S.2.2.2.1 (S.2.2.2.2 _ (List.mem_cons_of_mem _ kc_X11_137)) dX11_asked_8 ?_
  refine x_clp (x_runS (As := [.long p1.toInt64, .long (0 : Int64), .long (2 : Int64)]) (rest := []) S (c_X11_in l E K F tl 0 z1 z2 z3 z4 z5 z6 z7 z8 z9 z10 z11 z12 z13 z14 z15 z16 z17 z18 z19 z20 ar0 ar1 ar2 ar3 ar4 ar5 ar6 ar7 ar8 ar9 ar10 H p1.toInt64 (0 : Int64) (2 : Int64) p1.toInt (0 : Int) (2 : Int) (xl_i2l (rfl : Int32.toInt p1 = p1.toInt)) (by decide) (by decide)) ms_X11_in km_X11_139 rfl rfl ⟨Nat.le_of_ble_eq_true rfl, Nat.le_of_ble_eq_true rfl⟩ hK (fun _ => XPh.blind) (fun U hU hW => XPh.at hK hz hS hT hU hW) rfl hl.1 (Nat.le_of_ble_eq_true rfl) dX11_asked_11 ⟨Nat.le_of_ble_eq_true rfl, Nat.le_of_ble_eq_true rfl⟩) hS ?_
  rintro _ _ locs ⟨x1, rfl, b2, t3⟩ hS
  have t3 : (x1.toInt = 1 ∧ (0 : Int) ≤ p1.toInt ∧ p1.toInt ≤ (2 : Int)) ∨ (x1.toInt = 0 ∧ (p1.toInt < (0 : Int) ∨ (2 : Int) < p1.toInt)) := t3
  refine xi_zeq (tgt := 38) hx hb (rfl : Int32.toInt x1 = x1.toInt) dX11_asked_14 (by decide) (fun c4 => ?_) (fun c4 => ?_)
  · refine lv_iconst (v := (-1)) hx hb dX11_asked_38 (by decide) ?_
    exact x_ri hx hb hr hlk hQ (Nat.le_of_ble_eq_true rfl) (Nat.le_of_ble_eq_true rfl) hS dX11_asked_39 (0) ⟨_, rfl⟩ hT.nil
  · refine lv_iload_n hx hb dX11_asked_17 rfl (lv_at hl 1 rfl) ?_
    refine lv_iconst (v := (-1)) hx hb dX11_asked_18 (by decide) ?_
    have J40 : ∀ (H : Heap) (locs : List Loc) (ls : Array Slot), p0.toInt = -1 ∨ (0 ≤ p0.toInt ∧ p0.toInt < z12.toInt) → TW E K F (tl, [0, z1, z2, z3, z4, z5, z6, z7, z8, z9, z10, z11, z12, z13, z14, z15, z16, z17, z18, z19, z20], [ar0, ar1, ar2, ar3, ar4, ar5, ar6, ar7, ar8, ar9, ar10]) [] H → va_S (xA E) s.heap H locs → lv_has ls 3 [(0, .ref a), (1, .int p0), (2, .int p1)] → W p l e rm_X11_asked s m args below meth c H locs 0 0 Q (F0 m 40 ls []) := by
      intro H locs ls hf5 hT hS hl
      refine lv_iload_n hx hb dX11_asked_40 rfl (lv_at hl 1 rfl) ?_
      refine lv_iconst (v := (-1)) hx hb dX11_asked_41 (by decide) ?_
      refine xi_cne (tgt := 52) hx hb (rfl : Int32.toInt p0 = p0.toInt) ((by decide) : Int32.toInt (-1) = (-1 : Int)) dX11_asked_42 (by decide) (fun c6 => ?_) (fun c6 => ?_)
      · refine lv_iload_n hx hb dX11_asked_52 rfl (lv_at hl 2 rfl) ?_
        refine xi_zne (tgt := 65) hx hb (rfl : Int32.toInt p1 = p1.toInt) dX11_asked_53 (by decide) (fun c7 => ?_) (fun c7 => ?_)
        · refine lv_iload_n hx hb dX11_asked_65 rfl (lv_at hl 2 rfl) ?_
          refine lv_iconst (v := 1) hx hb dX11_asked_66 (by decide) ?_
          refine xi_cne (tgt := 79) hx hb (rfl : Int32.toInt p1 = p1.toInt) ((by decide) : Int32.toInt 1 = (1 : Int)) dX11_asked_67 (by decide) (fun c8 => ?_) (fun c8 => ?_)
          · refine lv_iload_n hx hb dX11_asked_79 rfl (lv_at hl 1 rfl) ?_
            refine lv_aload_n hx hb dX11_asked_80 rfl (lv_at hl 0 rfl) ?_
            refine gX11_44 S hK hT ha kf_X11_115 dX11_asked_81 (v := z13) rfl ?_
            refine xi_cne (tgt := 91) hx hb (rfl : Int32.toInt p0 = p0.toInt) (rfl : Int32.toInt z13 = z13.toInt) dX11_asked_84 (by decide) (fun c9 => ?_) (fun c9 => ?_)
            · refine lv_iconst (v := 0) hx hb dX11_asked_91 (by decide) ?_
              exact x_ri hx hb hr hlk hQ (Nat.le_of_ble_eq_true rfl) (Nat.le_of_ble_eq_true rfl) hS dX11_asked_92 (0) ⟨_, rfl⟩ hT.nil
            · refine lv_iconst (v := 1) hx hb dX11_asked_87 (by decide) ?_
              refine lv_goto (tgt := 92) hx hb dX11_asked_88 (by decide) ?_
              exact x_ri hx hb hr hlk hQ (Nat.le_of_ble_eq_true rfl) (Nat.le_of_ble_eq_true rfl) hS dX11_asked_92 (0) ⟨_, rfl⟩ hT.nil
          · refine lv_aload_n hx hb dX11_asked_70 rfl (lv_at hl 0 rfl) ?_
            refine gX11_42 S hK hT ha kf_X11_112 dX11_asked_71 (fun hk10 => ?_)
            refine lv_iload_n hx hb dX11_asked_74 rfl (lv_at hl 1 rfl) ?_
            refine al_0 S hK hT hk10 ar_54 (by decide) (z_X11_asked_1 p0.toInt z12.toInt e0 hf5 c6 (xr p0) (xr z12)) dX11_asked_75 (fun x11 o12 => ?_)
            refine lv_goto (tgt := 92) hx hb dX11_asked_76 (by decide) ?_
            exact x_ri hx hb hr hlk hQ (Nat.le_of_ble_eq_true rfl) (Nat.le_of_ble_eq_true rfl) hS dX11_asked_92 (0) ⟨_, rfl⟩ hT.nil
        · refine lv_aload_n hx hb dX11_asked_56 rfl (lv_at hl 0 rfl) ?_
          refine gX11_41 S hK hT ha kf_X11_109 dX11_asked_57 (fun hk13 => ?_)
          refine lv_iload_n hx hb dX11_asked_60 rfl (lv_at hl 1 rfl) ?_
          refine al_0 S hK hT hk13 ar_53 (by decide) (z_X11_asked_2 p0.toInt z12.toInt e0 hf5 c6 (xr p0) (xr z12)) dX11_asked_61 (fun x14 o15 => ?_)
          refine lv_goto (tgt := 92) hx hb dX11_asked_62 (by decide) ?_
          exact x_ri hx hb hr hlk hQ (Nat.le_of_ble_eq_true rfl) (Nat.le_of_ble_eq_true rfl) hS dX11_asked_92 (0) ⟨_, rfl⟩ hT.nil
      · refine lv_aload_n hx hb dX11_asked_45 rfl (lv_at hl 0 rfl) ?_
        refine gX11_43 S hK hT ha kf_X11_340 dX11_asked_46 (v := z12) rfl ?_
        refine lv_goto (tgt := 92) hx hb dX11_asked_49 (by decide) ?_
        exact x_ri hx hb hr hlk hQ (Nat.le_of_ble_eq_true rfl) (Nat.le_of_ble_eq_true rfl) hS dX11_asked_92 (0) ⟨_, rfl⟩ hT.nil
    refine xi_ceq (tgt := 40) hx hb (rfl : Int32.toInt p0 = p0.toInt) ((by decide) : Int32.toInt (-1) = (-1 : Int)) dX11_asked_19 (by decide) (fun c16 => ?_) (fun c16 => ?_)
    · exact J40 _ _ _ (z_X11_asked_3 p0.toInt z12.toInt e0 c16 (xr p0) (xr z12)) hT.nil hS (lv_sub hl [0, 1, 2] rfl)
    · refine lv_iload_n hx hb dX11_asked_22 rfl (lv_at hl 1 rfl) ?_
      refine lv_i2l (v := p0.toInt64) hx hb dX11_asked_23 rfl ?_
      refine lv_lconst (v := (0 : Int64)) hx hb dX11_asked_24 (by decide) ?_
      refine lv_aload_n hx hb dX11_asked_25 rfl (lv_at hl 0 rfl) ?_
      refine gX11_43 S hK hT ha kf_X11_340 dX11_asked_26 (v := z12) rfl ?_
      refine lv_i2l (v := z12.toInt64) hx hb dX11_asked_29 rfl ?_
      refine lv_lconst (v := (1 : Int64)) hx hb dX11_asked_30 (by decide) ?_
      refine lv_lsub hx hb dX11_asked_31 (lv_topl (fun y17 hy18 => ?_))
      have hy18 : y17.toInt = z12.toInt - (1 : Int) := xl_sub (xl_i2l (rfl : Int32.toInt z12 = z12.toInt)) (by decide) (z_X11_asked_4 z12.toInt e0 (xr z12)) (by decide) hy18
      refine x_clp (x_runS (As := [.long p0.toInt64, .long (0 : Int64), .long y17]) (rest := []) S (c_X11_in l E K F tl 0 z1 z2 z3 z4 z5 z6 z7 z8 z9 z10 z11 z12 z13 z14 z15 z16 z17 z18 z19 z20 ar0 ar1 ar2 ar3 ar4 ar5 ar6 ar7 ar8 ar9 ar10 H p0.toInt64 (0 : Int64) y17 p0.toInt (0 : Int) (z12.toInt - (1 : Int)) (xl_i2l (rfl : Int32.toInt p0 = p0.toInt)) (by decide) hy18) ms_X11_in km_X11_139 rfl rfl ⟨Nat.le_of_ble_eq_true rfl, Nat.le_of_ble_eq_true rfl⟩ hK (fun _ => XPh.blind) (fun U hU hW => XPh.at hK hz hS hT hU hW) rfl hl.1 (Nat.le_of_ble_eq_true rfl) dX11_asked_32 ⟨Nat.le_of_ble_eq_true rfl, Nat.le_of_ble_eq_true rfl⟩) hS ?_
      rintro _ _ locs ⟨x19, rfl, b20, t21⟩ hS
      have t21 : (x19.toInt = 1 ∧ (0 : Int) ≤ p0.toInt ∧ p0.toInt ≤ (z12.toInt - (1 : Int))) ∨ (x19.toInt = 0 ∧ (p0.toInt < (0 : Int) ∨ (z12.toInt - (1 : Int)) < p0.toInt)) := t21
      refine xi_zne (tgt := 40) hx hb (rfl : Int32.toInt x19 = x19.toInt) dX11_asked_35 (by decide) (fun c22 => ?_) (fun c22 => ?_)
      · exact J40 _ _ _ (z_X11_asked_5 p0.toInt x19.toInt z12.toInt e0 c16 t21 c22 (xr p0) (xr x19) (xr z12)) hT.nil hS (lv_sub hl [0, 1, 2] rfl)
      · refine lv_iconst (v := (-1)) hx hb dX11_asked_38 (by decide) ?_
        exact x_ri hx hb hr hlk hQ (Nat.le_of_ble_eq_true rfl) (Nat.le_of_ble_eq_true rfl) hS dX11_asked_39 (0) ⟨_, rfl⟩ hT.nil
