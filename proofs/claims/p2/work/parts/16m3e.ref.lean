theorem z_X11_told_1 (a0 : Int) (a1 : Int) (a2 : Int) (h0 : a1 = 0 ∨ (a1 = 1 ∧ 0 ≤ a0 ∧ a0 ≤ 11 ∧ 0 ≤ a2)) (h1 : a1 = 0 ∨ a1 = 1) (h2 : ¬ (a1 = 0)) (r0 : -2147483648 ≤ a0 ∧ a0 < 2147483648) (r1 : -2147483648 ≤ a1 ∧ a1 < 2147483648) : 0 ≤ a0 ∧ a0 ≤ 11 := by omega
theorem z_X11_told_2 (a0 : Int) (a1 : Int) (h0 : (a1 = 1 ∧ (0 : Int) ≤ a0 ∧ a0 ≤ (9 : Int)) ∨ (a1 = 0 ∧ (a0 < (0 : Int) ∨ (9 : Int) < a0))) (h1 : a1 ≠ 0) (h2 : a0 ≠ (9 : Int)) (r0 : -2147483648 ≤ a0 ∧ a0 < 2147483648) (r1 : -2147483648 ≤ a1 ∧ a1 < 2147483648) : 0 ≤ a0 ∧ a0 ≤ 9 := by omega
theorem z_X11_told_3 (a0 : Int) (a1 : Int) (a2 : Int) (h0 : a1 = 0 ∨ (a1 = 1 ∧ 0 ≤ a0 ∧ a0 ≤ 11 ∧ 0 ≤ a2)) (h1 : a1 = 0 ∨ a1 = 1) (h2 : ¬ (a1 = 0)) (r0 : -2147483648 ≤ a0 ∧ a0 < 2147483648) (r1 : -2147483648 ≤ a1 ∧ a1 < 2147483648) : 0 ≤ a0 ∧ a0 ≤ 11 := by omega
abbrev rm_X11_told : Room := { frames := 6, cells := 0, slots := 0, locals := 145 }
set_option maxHeartbeats 4000000 in
set_option maxRecDepth 100000 in
theorem c_X11_told (l : Launch) (E : XE) (K : Nat → Nat) (F : Nat → Nat → Nat) (tl z0 z1 z2 z3 z4 z5 z6 z7 z8 z9 z10 z11 z12 z13 z14 z15 z16 z17 z18 z19 z20 : Int32) (ar0 ar1 ar2 ar3 ar4 ar5 ar6 ar7 ar8 ar9 ar10 : Nat → Int32) (a : Nat) (p0 : Int32) (p1 : Int32) (ha : K a = 13) (hR : RV ar1) : Met l yX11_told (xw yX11_told cX11_told 3 (some .int)) rm_X11_told (va_Pc [.ref a, .int p0, .int p1] (XP E K F (tl, [z0, z1, z2, z3, z4, z5, z6, z7, z8, z9, z10, z11, z12, z13, z14, z15, z16, z17, z18, z19, z20], [ar0, ar1, ar2, ar3, ar4, ar5, ar6, ar7, ar8, ar9, ar10]))) (XQ E (fun v (u : Int32 × Int32 × Int32 × (Nat → Int32) × (Nat → Int32) × (Nat → Int32)) => ∃ r : Int32, v = .int r) (fun u H => TW E K F (tl, [u.1, z1, z2, u.2.1, u.2.2.1, z5, z6, z7, z8, z9, z10, z11, z12, z13, z14, z15, z16, z17, z18, z19, z20], [ar0, ar1, u.2.2.2.1, u.2.2.2.2.1, u.2.2.2.2.2, ar5, ar6, ar7, ar8, ar9, ar10]) [] H)) 0 0 (xA E) := by
  refine x_enter (by decide) (Nat.le_of_ble_eq_true rfl) ?_
  intro p e s m args below meth c Q S hr hlk hnm hQ hP ls hl
  obtain ⟨hz, hK, hT⟩ := hP
  obtain ⟨hx, hb, -, -, -⟩ := id S
  obtain ⟨H, hT, hS, hgo⟩ : ∃ H : Heap, TW E K F (tl, [z0, z1, z2, z3, z4, z5, z6, z7, z8, z9, z10, z11, z12, z13, z14, z15, z16, z17, z18, z19, z20], [ar0, ar1, ar2, ar3, ar4, ar5, ar6, ar7, ar8, ar9, ar10]) [] H ∧ va_S (xA E) s.heap H [] ∧ H = s.heap := ⟨_, hT, va_S.rf, rfl⟩
  rw [← hgo]
  have hl : lv_has ls 3 [(0, .ref a), (1, .int p0), (2, .int p1)] := hl
  refine lv_aload_n hx hb dX11_told_0 rfl (lv_at hl 0 rfl) ?_
  refine lv_iconst (v := 0) hx hb dX11_told_1 (by decide) ?_
  refine pX11_0 (kq := []) (v := 0) S hK hT hS ha kf_X11_134 (Nat.le_of_ble_eq_true rfl) dX11_told_2 (fun _ h => by cases h) (fun H locs hT hS => ?_)
  have hT : TW E K F (tl, [0, z1, z2, z3, z4, z5, z6, z7, z8, z9, z10, z11, z12, z13, z14, z15, z16, z17, z18, z19, z20], [ar0, ar1, ar2, ar3, ar4, ar5, ar6, ar7, ar8, ar9, ar10]) [] H := hT
  refine lv_aload_n hx hb dX11_told_5 rfl (lv_at hl 0 rfl) ?_
  refine lv_iload_n hx hb dX11_told_6 rfl (lv_at hl 1 rfl) ?_
  refine x_clp (x_runV (b := a) (As := [.int p0]) (rest := []) S (c_X11_isRule l E K F tl 0 z1 z2 z3 z4 z5 z6 z7 z8 z9 z10 z11 z12 z13 z14 z15 z16 z17 z18 z19 z20 ar0 ar1 ar2 ar3 ar4 ar5 ar6 ar7 ar8 ar9 ar10 H a p0 ha hR) mv_X11_isRule km_X11_162 rfl rfl ⟨Nat.le_of_ble_eq_true rfl, Nat.le_of_ble_eq_true rfl⟩ (rc_13 hK hT ha) hK (fun _ => XPh.blind) (fun U hU hW => XPh.at hK hz hS hT hU hW) rfl hl.1 (Nat.le_of_ble_eq_true rfl) dX11_told_7 ⟨Nat.le_of_ble_eq_true rfl, Nat.le_of_ble_eq_true rfl⟩) hS ?_
  rintro _ _ locs ⟨x2, rfl, b3, t1⟩ hS
  have t1 : x2.toInt = 0 ∨ (x2.toInt = 1 ∧ 0 ≤ p0.toInt ∧ p0.toInt ≤ 11 ∧ 0 ≤ (aI ar1 (10 * p0.toInt + (0 : Int)))) := t1
  have J25 : ∀ (H : Heap) (locs : List Loc) (ls : Array Slot), TW E K F (tl, [0, z1, z2, z3, z4, z5, z6, z7, z8, z9, z10, z11, z12, z13, z14, z15, z16, z17, z18, z19, z20], [ar0, ar1, ar2, ar3, ar4, ar5, ar6, ar7, ar8, ar9, ar10]) [] H → va_S (xA E) s.heap H locs → lv_has ls 3 [] → W p l e rm_X11_told s m args below meth c H locs 0 0 Q (F0 m 25 ls []) := by
    intro H locs ls hT hS hl
    refine lv_ldc (v := (-2147483648)) hx hb S.2.2.2.1 (S.2.2.2.2 _ (List.mem_cons_of_mem _ kc_X11_57)) dX11_told_25 ?_
    refine lv_goto (tgt := 50) hx hb dX11_told_27 (by decide) ?_
    exact x_ri hx hb hr hlk hQ (Nat.le_of_ble_eq_true rfl) (Nat.le_of_ble_eq_true rfl) hS dX11_told_50 (0, z3, z4, ar2, ar3, ar4) ⟨_, rfl⟩ hT.nil
  refine xi_zeq (tgt := 25) hx hb (rfl : Int32.toInt x2 = x2.toInt) dX11_told_10 (by decide) (fun c4 => ?_) (fun c4 => ?_)
  · exact J25 _ _ _ hT.nil hS (lv_sub hl [] rfl)
  · refine lv_iload_n hx hb dX11_told_13 rfl (lv_at hl 2 rfl) ?_
    refine lv_i2l (v := p1.toInt64) hx hb dX11_told_14 rfl ?_
    refine lv_lconst (v := (0 : Int64)) hx hb dX11_told_15 (by decide) ?_
    refine lv_ldc2 (v := 9) hx hb S.2.2.2.1 (S.2.2.2.2 _ (List.mem_cons_of_mem _ kc_X11_385)) dX11_told_16 ?_
    refine x_clp (x_runS (As := [.long p1.toInt64, .long (0 : Int64), .long (9 : Int64)]) (rest := []) S (c_X11_in l E K F tl 0 z1 z2 z3 z4 z5 z6 z7 z8 z9 z10 z11 z12 z13 z14 z15 z16 z17 z18 z19 z20 ar0 ar1 ar2 ar3 ar4 ar5 ar6 ar7 ar8 ar9 ar10 H p1.toInt64 (0 : Int64) (9 : Int64) p1.toInt (0 : Int) (9 : Int) (xl_i2l (rfl : Int32.toInt p1 = p1.toInt)) (by decide) (by decide)) ms_X11_in km_X11_139 rfl rfl ⟨Nat.le_of_ble_eq_true rfl, Nat.le_of_ble_eq_true rfl⟩ hK (fun _ => XPh.blind) (fun U hU hW => XPh.at hK hz hS hT hU hW) rfl hl.1 (Nat.le_of_ble_eq_true rfl) dX11_told_19 ⟨Nat.le_of_ble_eq_true rfl, Nat.le_of_ble_eq_true rfl⟩) hS ?_
    rintro _ _ locs ⟨x5, rfl, b6, t7⟩ hS
    have t7 : (x5.toInt = 1 ∧ (0 : Int) ≤ p1.toInt ∧ p1.toInt ≤ (9 : Int)) ∨ (x5.toInt = 0 ∧ (p1.toInt < (0 : Int) ∨ (9 : Int) < p1.toInt)) := t7
    refine xi_zne (tgt := 30) hx hb (rfl : Int32.toInt x5 = x5.toInt) dX11_told_22 (by decide) (fun c8 => ?_) (fun c8 => ?_)
    · refine lv_iload_n hx hb dX11_told_30 rfl (lv_at hl 2 rfl) ?_
      refine lv_bipush (v := 9) hx hb dX11_told_31 (by decide) ?_
      refine xi_cne (tgt := 44) hx hb (rfl : Int32.toInt p1 = p1.toInt) ((by decide) : Int32.toInt 9 = (9 : Int)) dX11_told_33 (by decide) (fun c9 => ?_) (fun c9 => ?_)
      · refine lv_aload_n hx hb dX11_told_44 rfl (lv_at hl 0 rfl) ?_
        refine lv_iload_n hx hb dX11_told_45 rfl (lv_at hl 1 rfl) ?_
        refine lv_iload_n hx hb dX11_told_46 rfl (lv_at hl 2 rfl) ?_
        refine x_clp (x_runV (b := a) (As := [.int p0, .int p1]) (rest := []) S (c_X11_of l E K F tl 0 z1 z2 z3 z4 z5 z6 z7 z8 z9 z10 z11 z12 z13 z14 z15 z16 z17 z18 z19 z20 ar0 ar1 ar2 ar3 ar4 ar5 ar6 ar7 ar8 ar9 ar10 H a p0 p1 ha (z_X11_told_1 p0.toInt x2.toInt (aI ar1 (10 * p0.toInt + (0 : Int))) t1 (xbz b3) c4 (xr p0) (xr x2)) (z_X11_told_2 p1.toInt x5.toInt t7 c8 c9 (xr p1) (xr x5))) mv_X11_of km_X11_165 rfl rfl ⟨Nat.le_of_ble_eq_true rfl, Nat.le_of_ble_eq_true rfl⟩ (rc_13 hK hT ha) hK (fun _ => XPh.blind) (fun U hU hW => XPh.at hK hz hS hT hU hW) rfl hl.1 (Nat.le_of_ble_eq_true rfl) dX11_told_47 ⟨Nat.le_of_ble_eq_true rfl, Nat.le_of_ble_eq_true rfl⟩) hS ?_
        rintro _ _ locs ⟨x11, rfl, t10⟩ hS
        have t10 : x11.toInt = (aI ar1 (10 * p0.toInt + p1.toInt)) := t10
        have v13 : (-1 ≤ (aI ar1 (10 * p0.toInt + (0 : Int))) ∧ (aI ar1 (10 * p0.toInt + (0 : Int))) ≤ 5) ∧ (0 ≤ (aI ar1 (10 * p0.toInt + (1 : Int))) ∧ (aI ar1 (10 * p0.toInt + (1 : Int))) ≤ 2) ∧ (0 ≤ (aI ar1 (10 * p0.toInt + (2 : Int))) ∧ (aI ar1 (10 * p0.toInt + (2 : Int))) ≤ 2) ∧ (-1 ≤ (aI ar1 (10 * p0.toInt + (3 : Int))) ∧ (aI ar1 (10 * p0.toInt + (3 : Int))) ≤ 2) ∧ ((aI ar1 (10 * p0.toInt + (0 : Int))) = 1 ∨ (aI ar1 (10 * p0.toInt + (0 : Int))) = 3 ∨ (aI ar1 (10 * p0.toInt + (0 : Int))) = 4 → 0 ≤ (aI ar1 (10 * p0.toInt + (3 : Int)))) := RV.row hR (z_X11_told_3 p0.toInt x2.toInt (aI ar1 (10 * p0.toInt + (0 : Int))) t1 (xbz b3) c4 (xr p0) (xr x2))
        exact x_ri hx hb hr hlk hQ (Nat.le_of_ble_eq_true rfl) (Nat.le_of_ble_eq_true rfl) hS dX11_told_50 (0, z3, z4, ar2, ar3, ar4) ⟨_, rfl⟩ hT.nil
      · refine lv_aload_n hx hb dX11_told_36 rfl (lv_at hl 0 rfl) ?_
        refine lv_iload_n hx hb dX11_told_37 rfl (lv_at hl 1 rfl) ?_
        refine x_cl0 (x_runV (b := a) (As := [.int p0]) (rest := []) S (c_X11_inQueue l E K F tl 0 z1 z2 z3 z4 z5 z6 z7 z8 z9 z10 z11 z12 z13 z14 z15 z16 z17 z18 z19 z20 ar0 ar1 ar2 ar3 ar4 ar5 ar6 ar7 ar8 ar9 ar10 a p0 ha hR) mv_X11_inQueue km_X11_306 rfl rfl ⟨Nat.le_of_ble_eq_true rfl, Nat.le_of_ble_eq_true rfl⟩ (rc_13 hK hT ha) hK (fun _ => XP.blind) (fun U hU hW => XP.at hK hz hS hT hU hW) rfl hl.1 (Nat.le_of_ble_eq_true rfl) dX11_told_38 ⟨Nat.le_of_ble_eq_true rfl, Nat.le_of_ble_eq_true rfl⟩) hS ?_
        rintro _ ⟨u14, u15, f16, f17, f18⟩ H locs ⟨x20, rfl, t19⟩ hT hS
        have hT : TW E K F (tl, [0, z1, z2, u14, u15, z5, z6, z7, z8, z9, z10, z11, z12, z13, z14, z15, z16, z17, z18, z19, z20], [ar0, ar1, f16, f17, f18, ar5, ar6, ar7, ar8, ar9, ar10]) [] H := hT
        have t19 : 0 ≤ u15.toInt ∧ u15.toInt ≤ 2388 ∧ u15.toInt ≤ (((fV ar1 f17 f18) : Nat) : Int) := t19
        refine lv_goto (tgt := 50) hx hb dX11_told_41 (by decide) ?_
        exact x_ri hx hb hr hlk hQ (Nat.le_of_ble_eq_true rfl) (Nat.le_of_ble_eq_true rfl) hS dX11_told_50 (0, u14, u15, f16, f17, f18) ⟨_, rfl⟩ hT.nil
    · exact J25 _ _ _ hT.nil hS (lv_sub hl [] rfl)

theorem z_X11_queue_1 (a0 : Int) (a1 : Nat) (h0 : 0 ≤ a0 ∧ a0 ≤ 2388 ∧ a0 ≤ ((a1 : Nat) : Int)) (r0 : -2147483648 ≤ a0 ∧ a0 < 2147483648) : -2147483648 ≤ a0 ∧ a0 < 2147483648 := by omega
theorem z_X11_queue_2 (a0 : Int) (a1 : Int) (a2 : Int) (a3 : Int) (a4 : Nat) (h0 : 0 ≤ a1 ∧ a1 ≤ 2388 ∧ a1 ≤ ((a4 : Nat) : Int)) (h1 : (a2 = 1 ∧ (0 : Int) ≤ a0 ∧ a0 ≤ (a1 - (1 : Int))) ∨ (a2 = 0 ∧ (a0 < (0 : Int) ∨ (a1 - (1 : Int)) < a0))) (h2 : (a3 = 0 ∨ a3 = 1) ∧ (a3 = 0 → 0 ≤ a0 ∧ a0 < a1)) (h3 : a3 ≠ (1 : Int)) (r0 : -2147483648 ≤ a0 ∧ a0 < 2147483648) (r1 : -2147483648 ≤ a1 ∧ a1 < 2147483648) (r2 : -2147483648 ≤ a2 ∧ a2 < 2147483648) (r3 : -2147483648 ≤ a3 ∧ a3 < 2147483648) : 0 ≤ a0 ∧ a0 < ((2400 : Nat) : Int) := by first | (clear h0 h3; omega) | omega
theorem z_X11_queue_3 (a0 : Int) (a1 : Int) (a2 : Int) (a3 : Int) (a4 : Nat) (h0 : 0 ≤ a1 ∧ a1 ≤ 2388 ∧ a1 ≤ ((a4 : Nat) : Int)) (h1 : (a2 = 1 ∧ (0 : Int) ≤ a0 ∧ a0 ≤ (a1 - (1 : Int))) ∨ (a2 = 0 ∧ (a0 < (0 : Int) ∨ (a1 - (1 : Int)) < a0))) (h2 : (a3 = 0 ∨ a3 = 1) ∧ (a3 = 0 → 0 ≤ a0 ∧ a0 < a1)) (h3 : a3 ≠ (1 : Int)) (r0 : -2147483648 ≤ a0 ∧ a0 < 2147483648) (r1 : -2147483648 ≤ a1 ∧ a1 < 2147483648) (r2 : -2147483648 ≤ a2 ∧ a2 < 2147483648) (r3 : -2147483648 ≤ a3 ∧ a3 < 2147483648) : 0 ≤ a0 ∧ a0 < ((a4 : Nat) : Int) := by first | (clear h3; omega) | omega
theorem z_X11_queue_4 (a0 : Int) (a1 : Int) (a2 : Int) (h0 : a0 = a2) (h1 : 0 ≤ a0 ∧ a0 ≤ 11 ∧ 0 ≤ a1) (r0 : -2147483648 ≤ a0 ∧ a0 < 2147483648) : 0 ≤ a0 ∧ a0 ≤ 11 := by omega
theorem z_X11_queue_5 (a0 : Int) (a1 : Int) (a2 : Int) (a3 : Int) (a4 : Nat) (h0 : 0 ≤ a1 ∧ a1 ≤ 2388 ∧ a1 ≤ ((a4 : Nat) : Int)) (h1 : (a2 = 1 ∧ (0 : Int) ≤ a0 ∧ a0 ≤ (a1 - (1 : Int))) ∨ (a2 = 0 ∧ (a0 < (0 : Int) ∨ (a1 - (1 : Int)) < a0))) (h2 : (a3 = 0 ∨ a3 = 1) ∧ (a3 = 0 → 0 ≤ a0 ∧ a0 < a1)) (h3 : a3 ≠ (1 : Int)) (r0 : -2147483648 ≤ a0 ∧ a0 < 2147483648) (r1 : -2147483648 ≤ a1 ∧ a1 < 2147483648) (r2 : -2147483648 ≤ a2 ∧ a2 < 2147483648) (r3 : -2147483648 ≤ a3 ∧ a3 < 2147483648) : 0 ≤ a0 ∧ a0 < ((2400 : Nat) : Int) := by first | (clear h0 h3; omega) | omega
theorem z_X11_queue_6 (a0 : Int) (a1 : Int) (a2 : Int) (a3 : Int) (a4 : Nat) (h0 : 0 ≤ a1 ∧ a1 ≤ 2388 ∧ a1 ≤ ((a4 : Nat) : Int)) (h1 : (a2 = 1 ∧ (0 : Int) ≤ a0 ∧ a0 ≤ (a1 - (1 : Int))) ∨ (a2 = 0 ∧ (a0 < (0 : Int) ∨ (a1 - (1 : Int)) < a0))) (h2 : (a3 = 0 ∨ a3 = 1) ∧ (a3 = 0 → 0 ≤ a0 ∧ a0 < a1)) (h3 : a3 ≠ (1 : Int)) (r0 : -2147483648 ≤ a0 ∧ a0 < 2147483648) (r1 : -2147483648 ≤ a1 ∧ a1 < 2147483648) (r2 : -2147483648 ≤ a2 ∧ a2 < 2147483648) (r3 : -2147483648 ≤ a3 ∧ a3 < 2147483648) : 0 ≤ a0 ∧ a0 < ((a4 : Nat) : Int) := by first | (clear h3; omega) | omega
theorem z_X11_queue_7 (a0 : Int) (r0 : -2147483648 ≤ a0 ∧ a0 < 2147483648) : (a0 < 0 ∨ 4 < a0) ∨ (a0 = 0) ∨ (a0 = 1) ∨ (a0 = 2) ∨ (a0 = 3) ∨ (a0 = 4) := by omega
theorem z_X11_queue_8 (a0 : Int) (a1 : Int) (a2 : Int) (a3 : Int) (a4 : Nat) (h0 : 0 ≤ a1 ∧ a1 ≤ 2388 ∧ a1 ≤ ((a4 : Nat) : Int)) (h1 : (a2 = 1 ∧ (0 : Int) ≤ a0 ∧ a0 ≤ (a1 - (1 : Int))) ∨ (a2 = 0 ∧ (a0 < (0 : Int) ∨ (a1 - (1 : Int)) < a0))) (h2 : (a3 = 0 ∨ a3 = 1) ∧ (a3 = 0 → 0 ≤ a0 ∧ a0 < a1)) (h3 : a3 ≠ (1 : Int)) (r0 : -2147483648 ≤ a0 ∧ a0 < 2147483648) (r1 : -2147483648 ≤ a1 ∧ a1 < 2147483648) (r2 : -2147483648 ≤ a2 ∧ a2 < 2147483648) (r3 : -2147483648 ≤ a3 ∧ a3 < 2147483648) : 0 ≤ a0 ∧ a0 < ((2400 : Nat) : Int) := by first | (clear h0 h3; omega) | omega
theorem z_X11_queue_9 (a0 : Int) (a1 : Int) (a2 : Int) (a3 : Int) (a4 : Nat) (h0 : 0 ≤ a1 ∧ a1 ≤ 2388 ∧ a1 ≤ ((a4 : Nat) : Int)) (h1 : (a2 = 1 ∧ (0 : Int) ≤ a0 ∧ a0 ≤ (a1 - (1 : Int))) ∨ (a2 = 0 ∧ (a0 < (0 : Int) ∨ (a1 - (1 : Int)) < a0))) (h2 : (a3 = 0 ∨ a3 = 1) ∧ (a3 = 0 → 0 ≤ a0 ∧ a0 < a1)) (h3 : a3 ≠ (1 : Int)) (r0 : -2147483648 ≤ a0 ∧ a0 < 2147483648) (r1 : -2147483648 ≤ a1 ∧ a1 < 2147483648) (r2 : -2147483648 ≤ a2 ∧ a2 < 2147483648) (r3 : -2147483648 ≤ a3 ∧ a3 < 2147483648) : 0 ≤ a0 ∧ a0 < ((a4 : Nat) : Int) := by first | (clear h3; omega) | omega
theorem z_X11_queue_10 (a0 : Int) (a1 : Int) (a2 : Int) (a3 : Int) (a4 : Int) (a5 : Int) (a6 : Int) (a7 : Int) (a8 : Int) (a9 : Int) (a10 : Int) (a11 : Int) (a12 : Int) (h0 : a0 = a10) (h1 : 0 ≤ a0 ∧ a0 ≤ 11 ∧ 0 ≤ a5) (h2 : (-1 ≤ a5 ∧ a5 ≤ 5) ∧ (0 ≤ a6 ∧ a6 ≤ 2) ∧ (0 ≤ a7 ∧ a7 ≤ 2) ∧ (-1 ≤ a8 ∧ a8 ≤ 2) ∧ (a5 = 1 ∨ a5 = 3 ∨ a5 = 4 → 0 ≤ a8)) (h3 : a1 = a11) (h4 : -99 ≤ a1 ∧ a1 ≤ 99 ∧ a4 ≤ a1 ∧ a1 ≤ a12) (h5 : 0 ≤ a0 ∧ a0 ≤ 11 ∧ -99 ≤ a1 ∧ a1 ≤ 99 → a2 = 199 * a0 + a1 + 99) (h6 : a3 = a10) (h7 : 0 ≤ a3 ∧ a3 ≤ 11 ∧ 0 ≤ a9) (r0 : -2147483648 ≤ a0 ∧ a0 < 2147483648) (r1 : -2147483648 ≤ a1 ∧ a1 < 2147483648) (r2 : -2147483648 ≤ a2 ∧ a2 < 2147483648) (r3 : -2147483648 ≤ a3 ∧ a3 < 2147483648) : 0 ≤ a3 ∧ a3 ≤ 11 := by first | (clear h0 h1 h2 h3 h4 h5; omega) | (clear h1 h2 h3 h4 h5; omega) | (clear h2 h3 h4; omega) | omega
theorem z_X11_queue_11 (a0 : Int) (a1 : Int) (a2 : Int) (a3 : Int) (a4 : Nat) (h0 : 0 ≤ a1 ∧ a1 ≤ 2388 ∧ a1 ≤ ((a4 : Nat) : Int)) (h1 : (a2 = 1 ∧ (0 : Int) ≤ a0 ∧ a0 ≤ (a1 - (1 : Int))) ∨ (a2 = 0 ∧ (a0 < (0 : Int) ∨ (a1 - (1 : Int)) < a0))) (h2 : (a3 = 0 ∨ a3 = 1) ∧ (a3 = 0 → 0 ≤ a0 ∧ a0 < a1)) (h3 : a3 ≠ (1 : Int)) (r0 : -2147483648 ≤ a0 ∧ a0 < 2147483648) (r1 : -2147483648 ≤ a1 ∧ a1 < 2147483648) (r2 : -2147483648 ≤ a2 ∧ a2 < 2147483648) (r3 : -2147483648 ≤ a3 ∧ a3 < 2147483648) : 0 ≤ a0 ∧ a0 < ((2400 : Nat) : Int) := by first | (clear h0 h3; omega) | omega
theorem z_X11_queue_12 (a0 : Int) (a1 : Int) (a2 : Int) (a3 : Int) (a4 : Nat) (h0 : 0 ≤ a1 ∧ a1 ≤ 2388 ∧ a1 ≤ ((a4 : Nat) : Int)) (h1 : (a2 = 1 ∧ (0 : Int) ≤ a0 ∧ a0 ≤ (a1 - (1 : Int))) ∨ (a2 = 0 ∧ (a0 < (0 : Int) ∨ (a1 - (1 : Int)) < a0))) (h2 : (a3 = 0 ∨ a3 = 1) ∧ (a3 = 0 → 0 ≤ a0 ∧ a0 < a1)) (h3 : a3 ≠ (1 : Int)) (r0 : -2147483648 ≤ a0 ∧ a0 < 2147483648) (r1 : -2147483648 ≤ a1 ∧ a1 < 2147483648) (r2 : -2147483648 ≤ a2 ∧ a2 < 2147483648) (r3 : -2147483648 ≤ a3 ∧ a3 < 2147483648) : 0 ≤ a0 ∧ a0 < ((a4 : Nat) : Int) := by first | (clear h3; omega) | omega
theorem z_X11_queue_13 (a0 : Int) (a1 : Int) (a2 : Int) (a3 : Int) (a4 : Int) (a5 : Int) (a6 : Int) (a7 : Int) (a8 : Int) (a9 : Int) (a10 : Int) (h0 : a0 = a8) (h1 : 0 ≤ a0 ∧ a0 ≤ 11 ∧ 0 ≤ a4) (h2 : (-1 ≤ a4 ∧ a4 ≤ 5) ∧ (0 ≤ a5 ∧ a5 ≤ 2) ∧ (0 ≤ a6 ∧ a6 ≤ 2) ∧ (-1 ≤ a7 ∧ a7 ≤ 2) ∧ (a4 = 1 ∨ a4 = 3 ∨ a4 = 4 → 0 ≤ a7)) (h3 : a1 = a9) (h4 : -99 ≤ a1 ∧ a1 ≤ 99 ∧ a3 ≤ a1 ∧ a1 ≤ a10) (h5 : 0 ≤ a0 ∧ a0 ≤ 11 ∧ -99 ≤ a1 ∧ a1 ≤ 99 → a2 = 199 * a0 + a1 + 99) (r0 : -2147483648 ≤ a0 ∧ a0 < 2147483648) (r1 : -2147483648 ≤ a1 ∧ a1 < 2147483648) (r2 : -2147483648 ≤ a2 ∧ a2 < 2147483648) : 0 ≤ a2 ∧ a2 < ((2388 : Nat) : Int) := by first | (clear h0 h1 h2 h3 h4; omega) | (clear h2; omega) | omega
theorem z_X11_queue_14 (a0 : Int) (a1 : Int) (a2 : Int) (a3 : Int) (a4 : Int) (a5 : Int) (a6 : Int) (a7 : Int) (a8 : Int) (a9 : Int) (a10 : Int) (h0 : a0 = a8) (h1 : 0 ≤ a0 ∧ a0 ≤ 11 ∧ 0 ≤ a4) (h2 : (-1 ≤ a4 ∧ a4 ≤ 5) ∧ (0 ≤ a5 ∧ a5 ≤ 2) ∧ (0 ≤ a6 ∧ a6 ≤ 2) ∧ (-1 ≤ a7 ∧ a7 ≤ 2) ∧ (a4 = 1 ∨ a4 = 3 ∨ a4 = 4 → 0 ≤ a7)) (h3 : a1 = a9) (h4 : -99 ≤ a1 ∧ a1 ≤ 99 ∧ a3 ≤ a1 ∧ a1 ≤ a10) (h5 : 0 ≤ a0 ∧ a0 ≤ 11 ∧ -99 ≤ a1 ∧ a1 ≤ 99 → a2 = 199 * a0 + a1 + 99) (r0 : -2147483648 ≤ a0 ∧ a0 < 2147483648) (r1 : -2147483648 ≤ a1 ∧ a1 < 2147483648) (r2 : -2147483648 ≤ a2 ∧ a2 < 2147483648) : 0 ≤ a2 ∧ a2 < ((2388 : Nat) : Int) := by first | (clear h0 h1 h2 h3 h4; omega) | (clear h2; omega) | omega
theorem z_X11_queue_15 (a0 : Int) (a1 : Int) (a2 : Int) (a3 : Int) (a4 : Nat) (h0 : 0 ≤ a1 ∧ a1 ≤ 2388 ∧ a1 ≤ ((a4 : Nat) : Int)) (h1 : (a2 = 1 ∧ (0 : Int) ≤ a0 ∧ a0 ≤ (a1 - (1 : Int))) ∨ (a2 = 0 ∧ (a0 < (0 : Int) ∨ (a1 - (1 : Int)) < a0))) (h2 : (a3 = 0 ∨ a3 = 1) ∧ (a3 = 0 → 0 ≤ a0 ∧ a0 < a1)) (h3 : a3 ≠ (1 : Int)) (r0 : -2147483648 ≤ a0 ∧ a0 < 2147483648) (r1 : -2147483648 ≤ a1 ∧ a1 < 2147483648) (r2 : -2147483648 ≤ a2 ∧ a2 < 2147483648) (r3 : -2147483648 ≤ a3 ∧ a3 < 2147483648) : 0 ≤ a0 ∧ a0 < ((2400 : Nat) : Int) := by first | (clear h0 h3; omega) | omega
theorem z_X11_queue_16 (a0 : Int) (a1 : Int) (a2 : Int) (a3 : Int) (a4 : Nat) (h0 : 0 ≤ a1 ∧ a1 ≤ 2388 ∧ a1 ≤ ((a4 : Nat) : Int)) (h1 : (a2 = 1 ∧ (0 : Int) ≤ a0 ∧ a0 ≤ (a1 - (1 : Int))) ∨ (a2 = 0 ∧ (a0 < (0 : Int) ∨ (a1 - (1 : Int)) < a0))) (h2 : (a3 = 0 ∨ a3 = 1) ∧ (a3 = 0 → 0 ≤ a0 ∧ a0 < a1)) (h3 : a3 ≠ (1 : Int)) (r0 : -2147483648 ≤ a0 ∧ a0 < 2147483648) (r1 : -2147483648 ≤ a1 ∧ a1 < 2147483648) (r2 : -2147483648 ≤ a2 ∧ a2 < 2147483648) (r3 : -2147483648 ≤ a3 ∧ a3 < 2147483648) : 0 ≤ a0 ∧ a0 < ((a4 : Nat) : Int) := by first | (clear h3; omega) | omega
theorem z_X11_queue_17 (a0 : Int) (a1 : Int) (a2 : Int) (a3 : Int) (a4 : Int) (a5 : Int) (a6 : Int) (a7 : Int) (a8 : Int) (a9 : Int) (a10 : Int) (a11 : Int) (a12 : Int) (h0 : a0 = a10) (h1 : 0 ≤ a0 ∧ a0 ≤ 11 ∧ 0 ≤ a5) (h2 : (-1 ≤ a5 ∧ a5 ≤ 5) ∧ (0 ≤ a6 ∧ a6 ≤ 2) ∧ (0 ≤ a7 ∧ a7 ≤ 2) ∧ (-1 ≤ a8 ∧ a8 ≤ 2) ∧ (a5 = 1 ∨ a5 = 3 ∨ a5 = 4 → 0 ≤ a8)) (h3 : a1 = a11) (h4 : -99 ≤ a1 ∧ a1 ≤ 99 ∧ a4 ≤ a1 ∧ a1 ≤ a12) (h5 : 0 ≤ a0 ∧ a0 ≤ 11 ∧ -99 ≤ a1 ∧ a1 ≤ 99 → a2 = 199 * a0 + a1 + 99) (h6 : a3 = a10) (h7 : 0 ≤ a3 ∧ a3 ≤ 11 ∧ 0 ≤ a9) (r0 : -2147483648 ≤ a0 ∧ a0 < 2147483648) (r1 : -2147483648 ≤ a1 ∧ a1 < 2147483648) (r2 : -2147483648 ≤ a2 ∧ a2 < 2147483648) (r3 : -2147483648 ≤ a3 ∧ a3 < 2147483648) : 0 ≤ a3 ∧ a3 ≤ 11 := by first | (clear h0 h1 h2 h3 h4 h5; omega) | (clear h1 h2 h3 h4 h5; omega) | (clear h2 h3 h4; omega) | omega
theorem z_X11_queue_18 (a0 : Int) (a1 : Int) (a2 : Int) (a3 : Int) (a4 : Nat) (h0 : 0 ≤ a1 ∧ a1 ≤ 2388 ∧ a1 ≤ ((a4 : Nat) : Int)) (h1 : (a2 = 1 ∧ (0 : Int) ≤ a0 ∧ a0 ≤ (a1 - (1 : Int))) ∨ (a2 = 0 ∧ (a0 < (0 : Int) ∨ (a1 - (1 : Int)) < a0))) (h2 : (a3 = 0 ∨ a3 = 1) ∧ (a3 = 0 → 0 ≤ a0 ∧ a0 < a1)) (h3 : a3 ≠ (1 : Int)) (r0 : -2147483648 ≤ a0 ∧ a0 < 2147483648) (r1 : -2147483648 ≤ a1 ∧ a1 < 2147483648) (r2 : -2147483648 ≤ a2 ∧ a2 < 2147483648) (r3 : -2147483648 ≤ a3 ∧ a3 < 2147483648) : 0 ≤ a0 ∧ a0 < ((2400 : Nat) : Int) := by first | (clear h0 h3; omega) | omega
theorem z_X11_queue_19 (a0 : Int) (a1 : Int) (a2 : Int) (a3 : Int) (a4 : Nat) (h0 : 0 ≤ a1 ∧ a1 ≤ 2388 ∧ a1 ≤ ((a4 : Nat) : Int)) (h1 : (a2 = 1 ∧ (0 : Int) ≤ a0 ∧ a0 ≤ (a1 - (1 : Int))) ∨ (a2 = 0 ∧ (a0 < (0 : Int) ∨ (a1 - (1 : Int)) < a0))) (h2 : (a3 = 0 ∨ a3 = 1) ∧ (a3 = 0 → 0 ≤ a0 ∧ a0 < a1)) (h3 : a3 ≠ (1 : Int)) (r0 : -2147483648 ≤ a0 ∧ a0 < 2147483648) (r1 : -2147483648 ≤ a1 ∧ a1 < 2147483648) (r2 : -2147483648 ≤ a2 ∧ a2 < 2147483648) (r3 : -2147483648 ≤ a3 ∧ a3 < 2147483648) : 0 ≤ a0 ∧ a0 < ((a4 : Nat) : Int) := by first | (clear h3; omega) | omega
theorem z_X11_queue_20 (a0 : Int) (a1 : Int) (a2 : Int) (a3 : Int) (a4 : Int) (a5 : Int) (a6 : Int) (a7 : Int) (a8 : Int) (a9 : Int) (a10 : Int) (a11 : Int) (a12 : Int) (a13 : Int) (a14 : Int) (a15 : Int) (a16 : Int) (a17 : Int) (a18 : Int) (h0 : a0 = a15) (h1 : 0 ≤ a0 ∧ a0 ≤ 11 ∧ 0 ≤ a7) (h2 : (-1 ≤ a7 ∧ a7 ≤ 5) ∧ (0 ≤ a8 ∧ a8 ≤ 2) ∧ (0 ≤ a9 ∧ a9 ≤ 2) ∧ (-1 ≤ a10 ∧ a10 ≤ 2) ∧ (a7 = 1 ∨ a7 = 3 ∨ a7 = 4 → 0 ≤ a10)) (h3 : a1 = a16) (h4 : -99 ≤ a1 ∧ a1 ≤ 99 ∧ a5 ≤ a1 ∧ a1 ≤ a17) (h5 : 0 ≤ a0 ∧ a0 ≤ 11 ∧ -99 ≤ a1 ∧ a1 ≤ 99 → a2 = 199 * a0 + a1 + 99) (h6 : a3 = a15) (h7 : 0 ≤ a3 ∧ a3 ≤ 11 ∧ 0 ≤ a11) (h8 : (-1 ≤ a11 ∧ a11 ≤ 5) ∧ (0 ≤ a12 ∧ a12 ≤ 2) ∧ (0 ≤ a13 ∧ a13 ≤ 2) ∧ (-1 ≤ a14 ∧ a14 ≤ 2) ∧ (a11 = 1 ∨ a11 = 3 ∨ a11 = 4 → 0 ≤ a14)) (h9 : a4 = a16) (h10 : -99 ≤ a4 ∧ a4 ≤ 99 ∧ a6 ≤ a4 ∧ a4 ≤ a18) (r0 : -2147483648 ≤ a0 ∧ a0 < 2147483648) (r1 : -2147483648 ≤ a1 ∧ a1 < 2147483648) (r2 : -2147483648 ≤ a2 ∧ a2 < 2147483648) (r3 : -2147483648 ≤ a3 ∧ a3 < 2147483648) (r4 : -2147483648 ≤ a4 ∧ a4 < 2147483648) : 0 ≤ a3 ∧ a3 ≤ 11 := by first | (clear h0 h1 h2 h3 h4 h5 h8 h9 h10; omega) | (clear h1 h2 h3 h4 h5 h9 h10; omega) | (clear h2 h3 h4 h9 h10; omega) | (clear h9 h10; omega) | (clear h10; omega) | omega
theorem z_X11_queue_21 (a0 : Int) (a1 : Int) (a2 : Int) (a3 : Int) (a4 : Int) (a5 : Int) (a6 : Int) (a7 : Int) (a8 : Int) (a9 : Int) (a10 : Int) (a11 : Int) (a12 : Int) (a13 : Int) (a14 : Int) (a15 : Int) (a16 : Int) (a17 : Int) (a18 : Int) (h0 : a0 = a15) (h1 : 0 ≤ a0 ∧ a0 ≤ 11 ∧ 0 ≤ a7) (h2 : (-1 ≤ a7 ∧ a7 ≤ 5) ∧ (0 ≤ a8 ∧ a8 ≤ 2) ∧ (0 ≤ a9 ∧ a9 ≤ 2) ∧ (-1 ≤ a10 ∧ a10 ≤ 2) ∧ (a7 = 1 ∨ a7 = 3 ∨ a7 = 4 → 0 ≤ a10)) (h3 : a1 = a16) (h4 : -99 ≤ a1 ∧ a1 ≤ 99 ∧ a5 ≤ a1 ∧ a1 ≤ a17) (h5 : 0 ≤ a0 ∧ a0 ≤ 11 ∧ -99 ≤ a1 ∧ a1 ≤ 99 → a2 = 199 * a0 + a1 + 99) (h6 : a3 = a15) (h7 : 0 ≤ a3 ∧ a3 ≤ 11 ∧ 0 ≤ a11) (h8 : (-1 ≤ a11 ∧ a11 ≤ 5) ∧ (0 ≤ a12 ∧ a12 ≤ 2) ∧ (0 ≤ a13 ∧ a13 ≤ 2) ∧ (-1 ≤ a14 ∧ a14 ≤ 2) ∧ (a11 = 1 ∨ a11 = 3 ∨ a11 = 4 → 0 ≤ a14)) (h9 : a4 = a16) (h10 : -99 ≤ a4 ∧ a4 ≤ 99 ∧ a6 ≤ a4 ∧ a4 ≤ a18) (r0 : -2147483648 ≤ a0 ∧ a0 < 2147483648) (r1 : -2147483648 ≤ a1 ∧ a1 < 2147483648) (r2 : -2147483648 ≤ a2 ∧ a2 < 2147483648) (r3 : -2147483648 ≤ a3 ∧ a3 < 2147483648) (r4 : -2147483648 ≤ a4 ∧ a4 < 2147483648) : 0 ≤ a11 := by first | (clear h0 h1 h2 h3 h4 h5 h6 h9 h10; omega) | (clear h0 h1 h2 h3 h4 h5 h9 h10; omega) | (clear h1 h2 h3 h4 h5 h9 h10; omega) | (clear h2 h3 h4 h9 h10; omega) | (clear h9 h10; omega) | omega
theorem z_X11_queue_22 (a0 : Int) (a1 : Int) (a2 : Int) (a3 : Int) (a4 : Int) (a5 : Int) (a6 : Int) (a7 : Int) (a8 : Int) (a9 : Int) (a10 : Int) (a11 : Int) (a12 : Int) (a13 : Int) (a14 : Int) (a15 : Int) (a16 : Int) (a17 : Int) (a18 : Int) (h0 : a0 = a15) (h1 : 0 ≤ a0 ∧ a0 ≤ 11 ∧ 0 ≤ a7) (h2 : (-1 ≤ a7 ∧ a7 ≤ 5) ∧ (0 ≤ a8 ∧ a8 ≤ 2) ∧ (0 ≤ a9 ∧ a9 ≤ 2) ∧ (-1 ≤ a10 ∧ a10 ≤ 2) ∧ (a7 = 1 ∨ a7 = 3 ∨ a7 = 4 → 0 ≤ a10)) (h3 : a1 = a16) (h4 : -99 ≤ a1 ∧ a1 ≤ 99 ∧ a5 ≤ a1 ∧ a1 ≤ a17) (h5 : 0 ≤ a0 ∧ a0 ≤ 11 ∧ -99 ≤ a1 ∧ a1 ≤ 99 → a2 = 199 * a0 + a1 + 99) (h6 : a3 = a15) (h7 : 0 ≤ a3 ∧ a3 ≤ 11 ∧ 0 ≤ a11) (h8 : (-1 ≤ a11 ∧ a11 ≤ 5) ∧ (0 ≤ a12 ∧ a12 ≤ 2) ∧ (0 ≤ a13 ∧ a13 ≤ 2) ∧ (-1 ≤ a14 ∧ a14 ≤ 2) ∧ (a11 = 1 ∨ a11 = 3 ∨ a11 = 4 → 0 ≤ a14)) (h9 : a4 = a16) (h10 : -99 ≤ a4 ∧ a4 ≤ 99 ∧ a6 ≤ a4 ∧ a4 ≤ a18) (r0 : -2147483648 ≤ a0 ∧ a0 < 2147483648) (r1 : -2147483648 ≤ a1 ∧ a1 < 2147483648) (r2 : -2147483648 ≤ a2 ∧ a2 < 2147483648) (r3 : -2147483648 ≤ a3 ∧ a3 < 2147483648) (r4 : -2147483648 ≤ a4 ∧ a4 < 2147483648) : a6 ≤ a4 ∧ a4 ≤ a18 := by first | (clear h0 h1 h2 h3 h4 h5 h6 h7 h8; omega) | (clear h0 h1 h2 h4 h5 h6 h7 h8; omega) | (clear h0 h1 h2 h6 h7 h8; omega) | (clear h2 h6 h7 h8; omega) | (clear h7 h8; omega) | omega
theorem z_X11_queue_23 (a0 : Int) (a1 : Int) (a2 : Int) (a3 : Nat) (h0 : 0 ≤ a1 ∧ a1 ≤ 2388 ∧ a1 ≤ ((a3 : Nat) : Int)) (h1 : (a2 = 1 ∧ (0 : Int) ≤ a0 ∧ a0 ≤ (a1 - (1 : Int))) ∨ (a2 = 0 ∧ (a0 < (0 : Int) ∨ (a1 - (1 : Int)) < a0))) (h2 : a2 = 0) (r0 : -2147483648 ≤ a0 ∧ a0 < 2147483648) (r1 : -2147483648 ≤ a1 ∧ a1 < 2147483648) (r2 : -2147483648 ≤ a2 ∧ a2 < 2147483648) : ((1 : Int) = 0 ∨ (1 : Int) = 1) ∧ ((1 : Int) = 0 → 0 ≤ a0 ∧ a0 < a1) := by omega
theorem z_X11_queue_24 (a0 : Int) (a1 : Int) (a2 : Int) (a3 : Nat) (h0 : 0 ≤ a1 ∧ a1 ≤ 2388 ∧ a1 ≤ ((a3 : Nat) : Int)) (h1 : (a2 = 1 ∧ (0 : Int) ≤ a0 ∧ a0 ≤ (a1 - (1 : Int))) ∨ (a2 = 0 ∧ (a0 < (0 : Int) ∨ (a1 - (1 : Int)) < a0))) (h2 : ¬ (a2 = 0)) (r0 : -2147483648 ≤ a0 ∧ a0 < 2147483648) (r1 : -2147483648 ≤ a1 ∧ a1 < 2147483648) (r2 : -2147483648 ≤ a2 ∧ a2 < 2147483648) : ((0 : Int) = 0 ∨ (0 : Int) = 1) ∧ ((0 : Int) = 0 → 0 ≤ a0 ∧ a0 < a1) := by omega
abbrev rm_X11_queue : Room := { frames := 5, cells := 0, slots := 0, locals := 122 }
set_option maxHeartbeats 4000000 in
set_option maxRecDepth 100000 in
theorem c_X11_queue (l : Launch) (E : XE) (K : Nat → Nat) (F : Nat → Nat → Nat) (tl z0 z1 z2 z3 z4 z5 z6 z7 z8 z9 z10 z11 z12 z13 z14 z15 z16 z17 z18 z19 z20 : Int32) (ar0 ar1 ar2 ar3 ar4 ar5 ar6 ar7 ar8 ar9 ar10 : Nat → Int32) (a : Nat) (p0 : Int32) (p1 : Int32) (ha : K a = 13) (hR : RV ar1) : Met l yX11_queue (xw yX11_queue cX11_queue 4 (some .int)) rm_X11_queue (va_Pc [.ref a, .int p0, .int p1] (XP E K F (tl, [z0, z1, z2, z3, z4, z5, z6, z7, z8, z9, z10, z11, z12, z13, z14, z15, z16, z17, z18, z19, z20], [ar0, ar1, ar2, ar3, ar4, ar5, ar6, ar7, ar8, ar9, ar10]))) (XQ E (fun v (u : Int32 × Int32 × Int32 × (Nat → Int32) × (Nat → Int32) × (Nat → Int32)) => ∃ r : Int32, v = .int r) (fun u H => TW E K F (tl, [u.1, z1, z2, u.2.1, u.2.2.1, z5, z6, z7, z8, z9, z10, z11, z12, z13, z14, z15, z16, z17, z18, z19, z20], [ar0, ar1, u.2.2.2.1, u.2.2.2.2.1, u.2.2.2.2.2, ar5, ar6, ar7, ar8, ar9, ar10]) [] H)) 0 0 (xA E) := by
  refine x_enter (by decide) (Nat.le_of_ble_eq_true rfl) ?_
  intro p e s m args below meth c Q S hr hlk hnm hQ hP ls hl
  obtain ⟨hz, hK, hT⟩ := hP
  obtain ⟨hx, hb, -, -, -⟩ := id S
  obtain ⟨H, hT, hS, hgo⟩ : ∃ H : Heap, TW E K F (tl, [z0, z1, z2, z3, z4, z5, z6, z7, z8, z9, z10, z11, z12, z13, z14, z15, z16, z17, z18, z19, z20], [ar0, ar1, ar2, ar3, ar4, ar5, ar6, ar7, ar8, ar9, ar10]) [] H ∧ va_S (xA E) s.heap H [] ∧ H = s.heap := ⟨_, hT, va_S.rf, rfl⟩
  rw [← hgo]
  have hl : lv_has ls 4 [(0, .ref a), (1, .int p0), (2, .int p1)] := hl
  refine lv_aload_n hx hb dX11_queue_0 rfl (lv_at hl 0 rfl) ?_
  refine x_cv0 (x_runV (b := a) (As := []) (rest := []) S (c_X11_findQueue l E K F tl z0 z1 z2 z3 z4 z5 z6 z7 z8 z9 z10 z11 z12 z13 z14 z15 z16 z17 z18 z19 z20 ar0 ar1 ar2 ar3 ar4 ar5 ar6 ar7 ar8 ar9 ar10 a ha hR) mv_X11_findQueue km_X11_218 rfl rfl ⟨Nat.le_of_ble_eq_true rfl, Nat.le_of_ble_eq_true rfl⟩ (rc_13 hK hT ha) hK (fun _ => XP.blind) (fun U hU hW => XP.at hK hz hS hT hU hW) rfl hl.1 (Nat.le_of_ble_eq_true rfl) dX11_queue_1 ⟨Nat.le_of_ble_eq_true rfl, Nat.le_of_ble_eq_true rfl⟩) hS ?_
  rintro ⟨u1, u2, f3, f4, f5⟩ H locs t6 hT hS
  have hT : TW E K F (tl, [z0, z1, z2, u1, u2, z5, z6, z7, z8, z9, z10, z11, z12, z13, z14, z15, z16, z17, z18, z19, z20], [ar0, ar1, f3, f4, f5, ar5, ar6, ar7, ar8, ar9, ar10]) [] H := hT
  have t6 : 0 ≤ u2.toInt ∧ u2.toInt ≤ 2388 ∧ u2.toInt ≤ (((fV ar1 f4 f5) : Nat) : Int) := t6
  refine lv_aload_n hx hb dX11_queue_4 rfl (lv_at hl 0 rfl) ?_
  refine lv_iload_n hx hb dX11_queue_5 rfl (lv_at hl 1 rfl) ?_
  refine lv_i2l (v := p0.toInt64) hx hb dX11_queue_6 rfl ?_
  refine lv_lconst (v := (0 : Int64)) hx hb dX11_queue_7 (by decide) ?_
  refine lv_aload_n hx hb dX11_queue_8 rfl (lv_at hl 0 rfl) ?_
  refine gX11_19 S hK hT ha kf_X11_203 dX11_queue_9 (v := u2) rfl ?_
  refine lv_i2l (v := u2.toInt64) hx hb dX11_queue_12 rfl ?_
  refine lv_lconst (v := (1 : Int64)) hx hb dX11_queue_13 (by decide) ?_
  refine lv_lsub hx hb dX11_queue_14 (lv_topl (fun y9 hy10 => ?_))
  have hy10 : y9.toInt = u2.toInt - (1 : Int) := xl_sub (xl_i2l (rfl : Int32.toInt u2 = u2.toInt)) (by decide) (z_X11_queue_1 u2.toInt (fV ar1 f4 f5) t6 (xr u2)) (by decide) hy10
  refine x_clp (x_runS (As := [.long p0.toInt64, .long (0 : Int64), .long y9]) (rest := [.ref a]) S (c_X11_in l E K F tl z0 z1 z2 u1 u2 z5 z6 z7 z8 z9 z10 z11 z12 z13 z14 z15 z16 z17 z18 z19 z20 ar0 ar1 f3 f4 f5 ar5 ar6 ar7 ar8 ar9 ar10 H p0.toInt64 (0 : Int64) y9 p0.toInt (0 : Int) (u2.toInt - (1 : Int)) (xl_i2l (rfl : Int32.toInt p0 = p0.toInt)) (by decide) hy10) ms_X11_in km_X11_139 rfl rfl ⟨Nat.le_of_ble_eq_true rfl, Nat.le_of_ble_eq_true rfl⟩ hK (fun _ => XPh.blind) (fun U hU hW => XPh.at hK hz hS hT hU hW) rfl hl.1 (Nat.le_of_ble_eq_true rfl) dX11_queue_15 ⟨Nat.le_of_ble_eq_true rfl, Nat.le_of_ble_eq_true rfl⟩) hS ?_
  rintro _ _ locs ⟨x11, rfl, b12, t13⟩ hS
  have t13 : (x11.toInt = 1 ∧ (0 : Int) ≤ p0.toInt ∧ p0.toInt ≤ (u2.toInt - (1 : Int))) ∨ (x11.toInt = 0 ∧ (p0.toInt < (0 : Int) ∨ (u2.toInt - (1 : Int)) < p0.toInt)) := t13
  have J26 : ∀ (x14 : Int32) (H : Heap) (locs : List Loc) (ls : Array Slot), (x14.toInt = 0 ∨ x14.toInt = 1) ∧ (x14.toInt = 0 → 0 ≤ p0.toInt ∧ p0.toInt < u2.toInt) → TW E K F (tl, [z0, z1, z2, u1, u2, z5, z6, z7, z8, z9, z10, z11, z12, z13, z14, z15, z16, z17, z18, z19, z20], [ar0, ar1, f3, f4, f5, ar5, ar6, ar7, ar8, ar9, ar10]) [] H → va_S (xA E) s.heap H locs → lv_has ls 4 [(0, .ref a), (1, .int p0), (2, .int p1)] → W p l e rm_X11_queue s m args below meth c H locs 0 0 Q (F0 m 26 ls [.int x14, .ref a]) := by
    intro x14 H locs ls hf15 hT hS hl
    refine pX11_0 (kq := []) (v := x14) S hK hT hS ha kf_X11_134 (Nat.le_of_ble_eq_true rfl) dX11_queue_26 (fun _ h => by cases h) (fun H locs hT hS => ?_)
    have hT : TW E K F (tl, [x14, z1, z2, u1, u2, z5, z6, z7, z8, z9, z10, z11, z12, z13, z14, z15, z16, z17, z18, z19, z20], [ar0, ar1, f3, f4, f5, ar5, ar6, ar7, ar8, ar9, ar10]) [] H := hT
    refine lv_aload_n hx hb dX11_queue_29 rfl (lv_at hl 0 rfl) ?_
    refine gX11_0 S hK hT ha kf_X11_134 dX11_queue_30 (v := x14) rfl ?_
    refine lv_iconst (v := 1) hx hb dX11_queue_33 (by decide) ?_
    refine xi_cne (tgt := 39) hx hb (rfl : Int32.toInt x14 = x14.toInt) ((by decide) : Int32.toInt 1 = (1 : Int)) dX11_queue_34 (by decide) (fun c16 => ?_) (fun c16 => ?_)
    · refine lv_aload_n hx hb dX11_queue_39 rfl (lv_at hl 0 rfl) ?_
      refine gX11_17 S hK hT ha kf_X11_51 dX11_queue_40 (fun hk17 => ?_)
      refine lv_iload_n hx hb dX11_queue_43 rfl (lv_at hl 1 rfl) ?_
      refine tld_0 S hK hT hk17 (at_43 (f := f4) rfl) (by decide) (z_X11_queue_2 p0.toInt u2.toInt x11.toInt x14.toInt (fV ar1 f4 f5) t6 t13 hf15 c16 (xr p0) (xr u2) (xr x11) (xr x14)) dX11_queue_44 (fun x18 w19 o20 => ?_)
      have v22 : 0 ≤ x18.toInt ∧ x18.toInt ≤ 11 ∧ 0 ≤ (aI ar1 (10 * x18.toInt + (0 : Int))) := fV_rule (f4 := f5) w19 (z_X11_queue_3 p0.toInt u2.toInt x11.toInt x14.toInt (fV ar1 f4 f5) t6 t13 hf15 c16 (xr p0) (xr u2) (xr x11) (xr x14))
      have v23 : (-1 ≤ (aI ar1 (10 * x18.toInt + (0 : Int))) ∧ (aI ar1 (10 * x18.toInt + (0 : Int))) ≤ 5) ∧ (0 ≤ (aI ar1 (10 * x18.toInt + (1 : Int))) ∧ (aI ar1 (10 * x18.toInt + (1 : Int))) ≤ 2) ∧ (0 ≤ (aI ar1 (10 * x18.toInt + (2 : Int))) ∧ (aI ar1 (10 * x18.toInt + (2 : Int))) ≤ 2) ∧ (-1 ≤ (aI ar1 (10 * x18.toInt + (3 : Int))) ∧ (aI ar1 (10 * x18.toInt + (3 : Int))) ≤ 2) ∧ ((aI ar1 (10 * x18.toInt + (0 : Int))) = 1 ∨ (aI ar1 (10 * x18.toInt + (0 : Int))) = 3 ∨ (aI ar1 (10 * x18.toInt + (0 : Int))) = 4 → 0 ≤ (aI ar1 (10 * x18.toInt + (3 : Int)))) := RV.row hR (z_X11_queue_4 x18.toInt (aI ar1 (10 * x18.toInt + (0 : Int))) (aI f4 p0.toInt) w19 v22 (xr x18))
      refine lv_aload_n hx hb dX11_queue_45 rfl (lv_at hl 0 rfl) ?_
      refine gX11_18 S hK hT ha kf_X11_54 dX11_queue_46 (fun hk24 => ?_)
      refine lv_iload_n hx hb dX11_queue_49 rfl (lv_at hl 1 rfl) ?_
      refine tld_0 S hK hT hk24 (at_44 (f := f5) rfl) (by decide) (z_X11_queue_5 p0.toInt u2.toInt x11.toInt x14.toInt (fV ar1 f4 f5) t6 t13 hf15 c16 (xr p0) (xr u2) (xr x11) (xr x14)) dX11_queue_50 (fun x25 w26 o27 => ?_)
      have v29 : -99 ≤ x25.toInt ∧ x25.toInt ≤ 99 ∧ (aF ar1 x18.toInt) ≤ x25.toInt ∧ x25.toInt ≤ (aL ar1 x18.toInt) := fV_sub w19 w26 (z_X11_queue_6 p0.toInt u2.toInt x11.toInt x14.toInt (fV ar1 f4 f5) t6 t13 hf15 c16 (xr p0) (xr u2) (xr x11) (xr x14))
      refine x_clp (x_runS (As := [.int x18, .int x25]) (rest := []) S (c_X11_placeOf l E K F tl x14 z1 z2 u1 u2 z5 z6 z7 z8 z9 z10 z11 z12 z13 z14 z15 z16 z17 z18 z19 z20 ar0 ar1 f3 f4 f5 ar5 ar6 ar7 ar8 ar9 ar10 H x18 x25) ms_X11_placeOf km_X11_186 rfl rfl ⟨Nat.le_of_ble_eq_true rfl, Nat.le_of_ble_eq_true rfl⟩ hK (fun _ => XPh.blind) (fun U hU hW => XPh.at hK hz hS hT hU hW) rfl hl.1 (Nat.le_of_ble_eq_true rfl) dX11_queue_51 ⟨Nat.le_of_ble_eq_true rfl, Nat.le_of_ble_eq_true rfl⟩) hS ?_
      rintro _ _ locs ⟨x31, rfl, t30⟩ hS
      have t30 : 0 ≤ x18.toInt ∧ x18.toInt ≤ 11 ∧ -99 ≤ x25.toInt ∧ x25.toInt ≤ 99 → x31.toInt = 199 * x18.toInt + x25.toInt + 99 := t30
      refine lv_istore_n (lv' := [(3, .int x31), (0, .ref a), (1, .int p0), (2, .int p1)]) hx hb dX11_queue_54 rfl hl (by decide) rfl (fun ls hl => ?_)
      refine lv_iload_n hx hb dX11_queue_55 rfl (lv_at hl 3 rfl) ?_
      rcases ((z_X11_queue_7 p1.toInt (xr p1)) : (p1.toInt < 0 ∨ 4 < p1.toInt) ∨ (p1.toInt = 0) ∨ (p1.toInt = 1) ∨ (p1.toInt = 2) ∨ (p1.toInt = 3) ∨ (p1.toInt = 4)) with c33 | c33 | c33 | c33 | c33 | c33
      · refine lv_tableOut (tgt := 150) hx hb dX11_queue_56 c33 (by decide) ?_
        refine lv_ldc (v := (-2147483648)) hx hb S.2.2.2.1 (S.2.2.2.2 _ (List.mem_cons_of_mem _ kc_X11_57)) dX11_queue_150 ?_
        exact x_ri hx hb hr hlk hQ (Nat.le_of_ble_eq_true rfl) (Nat.le_of_ble_eq_true rfl) hS dX11_queue_152 (x14, u1, u2, f3, f4, f5) ⟨_, rfl⟩ hT.nil
      · refine lv_tableIn (off := 36) (tgt := 92) hx hb dX11_queue_56 (by rw [c33]; decide) (by rw [c33]; decide) (by rw [c33]; rfl) (by decide) ?_
        refine lv_aload_n hx hb dX11_queue_92 rfl (lv_at hl 1 rfl) ?_
        refine gX11_17 S hK hT ha kf_X11_51 dX11_queue_93 (fun hk34 => ?_)
        refine lv_iload_n hx hb dX11_queue_96 rfl (lv_at hl 2 rfl) ?_
        refine tld_0 S hK hT hk34 (at_43 (f := f4) rfl) (by decide) (z_X11_queue_8 p0.toInt u2.toInt x11.toInt x14.toInt (fV ar1 f4 f5) t6 t13 hf15 c16 (xr p0) (xr u2) (xr x11) (xr x14)) dX11_queue_97 (fun x35 w36 o37 => ?_)
        have v39 : 0 ≤ x35.toInt ∧ x35.toInt ≤ 11 ∧ 0 ≤ (aI ar1 (10 * x35.toInt + (0 : Int))) := fV_rule (f4 := f5) w36 (z_X11_queue_9 p0.toInt u2.toInt x11.toInt x14.toInt (fV ar1 f4 f5) t6 t13 hf15 c16 (xr p0) (xr u2) (xr x11) (xr x14))
        have v40 : (-1 ≤ (aI ar1 (10 * x35.toInt + (0 : Int))) ∧ (aI ar1 (10 * x35.toInt + (0 : Int))) ≤ 5) ∧ (0 ≤ (aI ar1 (10 * x35.toInt + (1 : Int))) ∧ (aI ar1 (10 * x35.toInt + (1 : Int))) ≤ 2) ∧ (0 ≤ (aI ar1 (10 * x35.toInt + (2 : Int))) ∧ (aI ar1 (10 * x35.toInt + (2 : Int))) ≤ 2) ∧ (-1 ≤ (aI ar1 (10 * x35.toInt + (3 : Int))) ∧ (aI ar1 (10 * x35.toInt + (3 : Int))) ≤ 2) ∧ ((aI ar1 (10 * x35.toInt + (0 : Int))) = 1 ∨ (aI ar1 (10 * x35.toInt + (0 : Int))) = 3 ∨ (aI ar1 (10 * x35.toInt + (0 : Int))) = 4 → 0 ≤ (aI ar1 (10 * x35.toInt + (3 : Int)))) := RV.row hR (z_X11_queue_10 x18.toInt x25.toInt x31.toInt x35.toInt (aF ar1 x18.toInt) (aI ar1 (10 * x18.toInt + (0 : Int))) (aI ar1 (10 * x18.toInt + (1 : Int))) (aI ar1 (10 * x18.toInt + (2 : Int))) (aI ar1 (10 * x18.toInt + (3 : Int))) (aI ar1 (10 * x35.toInt + (0 : Int))) (aI f4 p0.toInt) (aI f5 p0.toInt) (aL ar1 x18.toInt) w19 v22 v23 w26 v29 t30 w36 v39 (xr x18) (xr x25) (xr x31) (xr x35))
        exact x_ri hx hb hr hlk hQ (Nat.le_of_ble_eq_true rfl) (Nat.le_of_ble_eq_true rfl) hS dX11_queue_98 (x14, u1, u2, f3, f4, f5) ⟨_, rfl⟩ hT.nil
      · refine lv_tableIn (off := 43) (tgt := 99) hx hb dX11_queue_56 (by rw [c33]; decide) (by rw [c33]; decide) (by rw [c33]; rfl) (by decide) ?_
        refine lv_aload_n hx hb dX11_queue_99 rfl (lv_at hl 1 rfl) ?_
        refine gX11_18 S hK hT ha kf_X11_54 dX11_queue_100 (fun hk41 => ?_)
        refine lv_iload_n hx hb dX11_queue_103 rfl (lv_at hl 2 rfl) ?_
        refine tld_0 S hK hT hk41 (at_44 (f := f5) rfl) (by decide) (z_X11_queue_11 p0.toInt u2.toInt x11.toInt x14.toInt (fV ar1 f4 f5) t6 t13 hf15 c16 (xr p0) (xr u2) (xr x11) (xr x14)) dX11_queue_104 (fun x42 w43 o44 => ?_)
        have v46 : -99 ≤ x42.toInt ∧ x42.toInt ≤ 99 ∧ (aF ar1 x18.toInt) ≤ x42.toInt ∧ x42.toInt ≤ (aL ar1 x18.toInt) := fV_sub w19 w43 (z_X11_queue_12 p0.toInt u2.toInt x11.toInt x14.toInt (fV ar1 f4 f5) t6 t13 hf15 c16 (xr p0) (xr u2) (xr x11) (xr x14))
        exact x_ri hx hb hr hlk hQ (Nat.le_of_ble_eq_true rfl) (Nat.le_of_ble_eq_true rfl) hS dX11_queue_105 (x14, u1, u2, f3, f4, f5) ⟨_, rfl⟩ hT.nil
      · refine lv_tableIn (off := 50) (tgt := 106) hx hb dX11_queue_56 (by rw [c33]; decide) (by rw [c33]; decide) (by rw [c33]; rfl) (by decide) ?_
        refine lv_aload_n hx hb dX11_queue_106 rfl (lv_at hl 1 rfl) ?_
        refine gX11_13 S hK hT ha kf_X11_42 dX11_queue_107 (fun hk47 => ?_)
        refine lv_iload_n hx hb dX11_queue_110 rfl (lv_at hl 0 rfl) ?_
        refine al_0 S hK hT hk47 ar_38 (by decide) (z_X11_queue_13 x18.toInt x25.toInt x31.toInt (aF ar1 x18.toInt) (aI ar1 (10 * x18.toInt + (0 : Int))) (aI ar1 (10 * x18.toInt + (1 : Int))) (aI ar1 (10 * x18.toInt + (2 : Int))) (aI ar1 (10 * x18.toInt + (3 : Int))) (aI f4 p0.toInt) (aI f5 p0.toInt) (aL ar1 x18.toInt) w19 v22 v23 w26 v29 t30 (xr x18) (xr x25) (xr x31)) dX11_queue_111 (fun x48 o49 => ?_)
        exact x_ri hx hb hr hlk hQ (Nat.le_of_ble_eq_true rfl) (Nat.le_of_ble_eq_true rfl) hS dX11_queue_112 (x14, u1, u2, f3, f4, f5) ⟨_, rfl⟩ hT.nil
      · refine lv_tableIn (off := 57) (tgt := 113) hx hb dX11_queue_56 (by rw [c33]; decide) (by rw [c33]; decide) (by rw [c33]; rfl) (by decide) ?_
        refine lv_aload_n hx hb dX11_queue_113 rfl (lv_at hl 1 rfl) ?_
        refine gX11_11 S hK hT ha kf_X11_36 dX11_queue_114 (fun hk50 => ?_)
        refine lv_iload_n hx hb dX11_queue_117 rfl (lv_at hl 0 rfl) ?_
        refine al_0 S hK hT hk50 ar_38 (by decide) (z_X11_queue_14 x18.toInt x25.toInt x31.toInt (aF ar1 x18.toInt) (aI ar1 (10 * x18.toInt + (0 : Int))) (aI ar1 (10 * x18.toInt + (1 : Int))) (aI ar1 (10 * x18.toInt + (2 : Int))) (aI ar1 (10 * x18.toInt + (3 : Int))) (aI f4 p0.toInt) (aI f5 p0.toInt) (aL ar1 x18.toInt) w19 v22 v23 w26 v29 t30 (xr x18) (xr x25) (xr x31)) dX11_queue_118 (fun x51 o52 => ?_)
        exact x_ri hx hb hr hlk hQ (Nat.le_of_ble_eq_true rfl) (Nat.le_of_ble_eq_true rfl) hS dX11_queue_119 (x14, u1, u2, f3, f4, f5) ⟨_, rfl⟩ hT.nil
      · refine lv_tableIn (off := 64) (tgt := 120) hx hb dX11_queue_56 (by rw [c33]; decide) (by rw [c33]; decide) (by rw [c33]; rfl) (by decide) ?_
        refine lv_aload_n hx hb dX11_queue_120 rfl (lv_at hl 1 rfl) ?_
        refine lv_aload_n hx hb dX11_queue_121 rfl (lv_at hl 1 rfl) ?_
        refine gX11_17 S hK hT ha kf_X11_51 dX11_queue_122 (fun hk53 => ?_)
        refine lv_iload_n hx hb dX11_queue_125 rfl (lv_at hl 2 rfl) ?_
        refine tld_0 S hK hT hk53 (at_43 (f := f4) rfl) (by decide) (z_X11_queue_15 p0.toInt u2.toInt x11.toInt x14.toInt (fV ar1 f4 f5) t6 t13 hf15 c16 (xr p0) (xr u2) (xr x11) (xr x14)) dX11_queue_126 (fun x54 w55 o56 => ?_)
        have v58 : 0 ≤ x54.toInt ∧ x54.toInt ≤ 11 ∧ 0 ≤ (aI ar1 (10 * x54.toInt + (0 : Int))) := fV_rule (f4 := f5) w55 (z_X11_queue_16 p0.toInt u2.toInt x11.toInt x14.toInt (fV ar1 f4 f5) t6 t13 hf15 c16 (xr p0) (xr u2) (xr x11) (xr x14))
        have v59 : (-1 ≤ (aI ar1 (10 * x54.toInt + (0 : Int))) ∧ (aI ar1 (10 * x54.toInt + (0 : Int))) ≤ 5) ∧ (0 ≤ (aI ar1 (10 * x54.toInt + (1 : Int))) ∧ (aI ar1 (10 * x54.toInt + (1 : Int))) ≤ 2) ∧ (0 ≤ (aI ar1 (10 * x54.toInt + (2 : Int))) ∧ (aI ar1 (10 * x54.toInt + (2 : Int))) ≤ 2) ∧ (-1 ≤ (aI ar1 (10 * x54.toInt + (3 : Int))) ∧ (aI ar1 (10 * x54.toInt + (3 : Int))) ≤ 2) ∧ ((aI ar1 (10 * x54.toInt + (0 : Int))) = 1 ∨ (aI ar1 (10 * x54.toInt + (0 : Int))) = 3 ∨ (aI ar1 (10 * x54.toInt + (0 : Int))) = 4 → 0 ≤ (aI ar1 (10 * x54.toInt + (3 : Int)))) := RV.row hR (z_X11_queue_17 x18.toInt x25.toInt x31.toInt x54.toInt (aF ar1 x18.toInt) (aI ar1 (10 * x18.toInt + (0 : Int))) (aI ar1 (10 * x18.toInt + (1 : Int))) (aI ar1 (10 * x18.toInt + (2 : Int))) (aI ar1 (10 * x18.toInt + (3 : Int))) (aI ar1 (10 * x54.toInt + (0 : Int))) (aI f4 p0.toInt) (aI f5 p0.toInt) (aL ar1 x18.toInt) w19 v22 v23 w26 v29 t30 w55 v58 (xr x18) (xr x25) (xr x31) (xr x54))
        refine lv_aload_n hx hb dX11_queue_127 rfl (lv_at hl 1 rfl) ?_
        refine gX11_18 S hK hT ha kf_X11_54 dX11_queue_128 (fun hk60 => ?_)
        refine lv_iload_n hx hb dX11_queue_131 rfl (lv_at hl 2 rfl) ?_
        refine tld_0 S hK hT hk60 (at_44 (f := f5) rfl) (by decide) (z_X11_queue_18 p0.toInt u2.toInt x11.toInt x14.toInt (fV ar1 f4 f5) t6 t13 hf15 c16 (xr p0) (xr u2) (xr x11) (xr x14)) dX11_queue_132 (fun x61 w62 o63 => ?_)
        have v65 : -99 ≤ x61.toInt ∧ x61.toInt ≤ 99 ∧ (aF ar1 x54.toInt) ≤ x61.toInt ∧ x61.toInt ≤ (aL ar1 x54.toInt) := fV_sub w55 w62 (z_X11_queue_19 p0.toInt u2.toInt x11.toInt x14.toInt (fV ar1 f4 f5) t6 t13 hf15 c16 (xr p0) (xr u2) (xr x11) (xr x14))
        refine lv_aload_n hx hb dX11_queue_133 rfl (lv_at hl 1 rfl) ?_
        refine gX11_1 S hK hT ha kf_X11_9 dX11_queue_134 (fun hk66 => ?_)
        refine lv_iconst (v := 0) hx hb dX11_queue_137 (by decide) ?_
        refine x_clp (x_runV (b := a) (As := [.int x54, .int x61, .ref (F a 1), .int 0]) (rest := []) S (c_X11_fails l E K F tl x14 z1 z2 u1 u2 z5 z6 z7 z8 z9 z10 z11 z12 z13 z14 z15 z16 z17 z18 z19 z20 ar0 ar1 f3 f4 f5 ar5 ar6 ar7 ar8 ar9 ar10 H a x54 x61 (F a 1) 0 ha (XO.a hk66 (by decide)) hR (z_X11_queue_20 x18.toInt x25.toInt x31.toInt x54.toInt x61.toInt (aF ar1 x18.toInt) (aF ar1 x54.toInt) (aI ar1 (10 * x18.toInt + (0 : Int))) (aI ar1 (10 * x18.toInt + (1 : Int))) (aI ar1 (10 * x18.toInt + (2 : Int))) (aI ar1 (10 * x18.toInt + (3 : Int))) (aI ar1 (10 * x54.toInt + (0 : Int))) (aI ar1 (10 * x54.toInt + (1 : Int))) (aI ar1 (10 * x54.toInt + (2 : Int))) (aI ar1 (10 * x54.toInt + (3 : Int))) (aI f4 p0.toInt) (aI f5 p0.toInt) (aL ar1 x18.toInt) (aL ar1 x54.toInt) w19 v22 v23 w26 v29 t30 w55 v58 v59 w62 v65 (xr x18) (xr x25) (xr x31) (xr x54) (xr x61)) (z_X11_queue_21 x18.toInt x25.toInt x31.toInt x54.toInt x61.toInt (aF ar1 x18.toInt) (aF ar1 x54.toInt) (aI ar1 (10 * x18.toInt + (0 : Int))) (aI ar1 (10 * x18.toInt + (1 : Int))) (aI ar1 (10 * x18.toInt + (2 : Int))) (aI ar1 (10 * x18.toInt + (3 : Int))) (aI ar1 (10 * x54.toInt + (0 : Int))) (aI ar1 (10 * x54.toInt + (1 : Int))) (aI ar1 (10 * x54.toInt + (2 : Int))) (aI ar1 (10 * x54.toInt + (3 : Int))) (aI f4 p0.toInt) (aI f5 p0.toInt) (aL ar1 x18.toInt) (aL ar1 x54.toInt) w19 v22 v23 w26 v29 t30 w55 v58 v59 w62 v65 (xr x18) (xr x25) (xr x31) (xr x54) (xr x61)) (z_X11_queue_22 x18.toInt x25.toInt x31.toInt x54.toInt x61.toInt (aF ar1 x18.toInt) (aF ar1 x54.toInt) (aI ar1 (10 * x18.toInt + (0 : Int))) (aI ar1 (10 * x18.toInt + (1 : Int))) (aI ar1 (10 * x18.toInt + (2 : Int))) (aI ar1 (10 * x18.toInt + (3 : Int))) (aI ar1 (10 * x54.toInt + (0 : Int))) (aI ar1 (10 * x54.toInt + (1 : Int))) (aI ar1 (10 * x54.toInt + (2 : Int))) (aI ar1 (10 * x54.toInt + (3 : Int))) (aI f4 p0.toInt) (aI f5 p0.toInt) (aL ar1 x18.toInt) (aL ar1 x54.toInt) w19 v22 v23 w26 v29 t30 w55 v58 v59 w62 v65 (xr x18) (xr x25) (xr x31) (xr x54) (xr x61))) mv_X11_fails km_X11_221 rfl rfl ⟨Nat.le_of_ble_eq_true rfl, Nat.le_of_ble_eq_true rfl⟩ (rc_13 hK hT ha) hK (fun _ => XPh.blind) (fun U hU hW => XPh.at hK hz hS hT hU hW) rfl hl.1 (Nat.le_of_ble_eq_true rfl) dX11_queue_138 ⟨Nat.le_of_ble_eq_true rfl, Nat.le_of_ble_eq_true rfl⟩) hS ?_
        rintro _ _ locs ⟨x67, rfl, b68⟩ hS
        refine xi_zeq (tgt := 148) hx hb (rfl : Int32.toInt x67 = x67.toInt) dX11_queue_141 (by decide) (fun c69 => ?_) (fun c69 => ?_)
        · refine lv_iconst (v := 0) hx hb dX11_queue_148 (by decide) ?_
          exact x_ri hx hb hr hlk hQ (Nat.le_of_ble_eq_true rfl) (Nat.le_of_ble_eq_true rfl) hS dX11_queue_149 (x14, u1, u2, f3, f4, f5) ⟨_, rfl⟩ hT.nil
        · refine lv_iconst (v := 1) hx hb dX11_queue_144 (by decide) ?_
          refine lv_goto (tgt := 149) hx hb dX11_queue_145 (by decide) ?_
          exact x_ri hx hb hr hlk hQ (Nat.le_of_ble_eq_true rfl) (Nat.le_of_ble_eq_true rfl) hS dX11_queue_149 (x14, u1, u2, f3, f4, f5) ⟨_, rfl⟩ hT.nil
    · refine lv_iconst (v := 0) hx hb dX11_queue_37 (by decide) ?_
      exact x_ri hx hb hr hlk hQ (Nat.le_of_ble_eq_true rfl) (Nat.le_of_ble_eq_true rfl) hS dX11_queue_38 (x14, u1, u2, f3, f4, f5) ⟨_, rfl⟩ hT.nil
  refine xi_zeq (tgt := 25) hx hb (rfl : Int32.toInt x11 = x11.toInt) dX11_queue_18 (by decide) (fun c70 => ?_) (fun c70 => ?_)
  · refine lv_iconst (v := 1) hx hb dX11_queue_25 (by decide) ?_
    exact J26 1 _ _ _ (z_X11_queue_23 p0.toInt u2.toInt x11.toInt (fV ar1 f4 f5) t6 t13 c70 (xr p0) (xr u2) (xr x11)) hT.nil hS (lv_sub hl [0, 1, 2] rfl)
  · refine lv_iconst (v := 0) hx hb dX11_queue_21 (by decide) ?_
    refine lv_goto (tgt := 26) hx hb dX11_queue_22 (by decide) ?_
    exact J26 0 _ _ _ (z_X11_queue_24 p0.toInt u2.toInt x11.toInt (fV ar1 f4 f5) t6 t13 c70 (xr p0) (xr u2) (xr x11)) hT.nil hS (lv_sub hl [0, 1, 2] rfl)

theorem z_X11_group_1 (a0 : Int) (a1 : Int) (h0 : 0 ≤ a0 ∧ a0 < a1 ∧ 1 ≤ a1) (h1 : (1 : Int) ≤ a1) (r0 : -2147483648 ≤ a0 ∧ a0 < 2147483648) (r1 : -2147483648 ≤ a1 ∧ a1 < 2147483648) : ¬ (2147483648 - a1 < ((0 : Nat) : Int)) := by omega
theorem z_X11_group_2 (a0 : Int) (a1 : Int) (a2 : Int) (a3 : Int) (a4 : Int) (a5 : Nat) (a6 : Nat) (h0 : 0 ≤ a0 ∧ a0 ≤ 2388 ∧ a0 ≤ ((a6 : Nat) : Int)) (h1 : 0 ≤ a1 ∧ a1 < a2 ∧ 1 ≤ a2) (h2 : (1 : Int) ≤ a2) (h3 : 2147483648 - a2 < ((a5 + 1 : Nat) : Int)) (h4 : ¬ (a0 < a2)) (h5 : 0 ≤ a3 ∧ a3 ≤ a2) (h6 : a4 = a2 + 1 ∨ a2 + 1 < -2147483648 ∨ 2147483648 ≤ a2 + 1) (r0 : -2147483648 ≤ a0 ∧ a0 < 2147483648) (r1 : -2147483648 ≤ a1 ∧ a1 < 2147483648) (r2 : -2147483648 ≤ a2 ∧ a2 < 2147483648) (r3 : -2147483648 ≤ a3 ∧ a3 < 2147483648) (r4 : -2147483648 ≤ a4 ∧ a4 < 2147483648) : 0 ≤ a3 ∧ a3 < a4 ∧ 1 ≤ a4 := by first | (clear h0 h1 h2 h3 h4; omega) | (clear h0; omega) | omega
theorem z_X11_group_3 (a0 : Int) (a1 : Int) (a2 : Int) (a3 : Int) (a4 : Int) (a5 : Nat) (a6 : Nat) (h0 : 0 ≤ a0 ∧ a0 ≤ 2388 ∧ a0 ≤ ((a6 : Nat) : Int)) (h1 : 0 ≤ a1 ∧ a1 < a2 ∧ 1 ≤ a2) (h2 : (1 : Int) ≤ a2) (h3 : 2147483648 - a2 < ((a5 + 1 : Nat) : Int)) (h4 : ¬ (a0 < a2)) (h5 : 0 ≤ a3 ∧ a3 ≤ a2) (h6 : a4 = a2 + 1 ∨ a2 + 1 < -2147483648 ∨ 2147483648 ≤ a2 + 1) (r0 : -2147483648 ≤ a0 ∧ a0 < 2147483648) (r1 : -2147483648 ≤ a1 ∧ a1 < 2147483648) (r2 : -2147483648 ≤ a2 ∧ a2 < 2147483648) (r3 : -2147483648 ≤ a3 ∧ a3 < 2147483648) (r4 : -2147483648 ≤ a4 ∧ a4 < 2147483648) : (1 : Int) ≤ a4 := by first | (clear h0 h1 h2 h3 h4 h5; omega) | (clear h0; omega) | omega
theorem z_X11_group_4 (a0 : Int) (a1 : Int) (a2 : Int) (a3 : Int) (a4 : Int) (a5 : Nat) (a6 : Nat) (h0 : 0 ≤ a0 ∧ a0 ≤ 2388 ∧ a0 ≤ ((a6 : Nat) : Int)) (h1 : 0 ≤ a1 ∧ a1 < a2 ∧ 1 ≤ a2) (h2 : (1 : Int) ≤ a2) (h3 : 2147483648 - a2 < ((a5 + 1 : Nat) : Int)) (h4 : ¬ (a0 < a2)) (h5 : 0 ≤ a3 ∧ a3 ≤ a2) (h6 : a4 = a2 + 1 ∨ a2 + 1 < -2147483648 ∨ 2147483648 ≤ a2 + 1) (r0 : -2147483648 ≤ a0 ∧ a0 < 2147483648) (r1 : -2147483648 ≤ a1 ∧ a1 < 2147483648) (r2 : -2147483648 ≤ a2 ∧ a2 < 2147483648) (r3 : -2147483648 ≤ a3 ∧ a3 < 2147483648) (r4 : -2147483648 ≤ a4 ∧ a4 < 2147483648) : 2147483648 - a4 < ((a5 : Nat) : Int) := by first | (clear h0 h1 h2 h4 h5; omega) | (clear h0; omega) | omega
theorem z_X11_group_5 (a0 : Int) (a1 : Int) (a2 : Int) (a3 : Nat) (a4 : Nat) (h0 : 0 ≤ a0 ∧ a0 ≤ 2388 ∧ a0 ≤ ((a4 : Nat) : Int)) (h1 : 0 ≤ a1 ∧ a1 < a2 ∧ 1 ≤ a2) (h2 : (1 : Int) ≤ a2) (h3 : 2147483648 - a2 < ((a3 + 1 : Nat) : Int)) (h4 : ¬ (a0 < a2)) (r0 : -2147483648 ≤ a0 ∧ a0 < 2147483648) (r1 : -2147483648 ≤ a1 ∧ a1 < 2147483648) (r2 : -2147483648 ≤ a2 ∧ a2 < 2147483648) : 0 ≤ a2 ∧ a2 ≤ a2 := by first | (clear h0; omega) | omega
theorem z_X11_group_6 (a0 : Int) (a1 : Int) (a2 : Int) (a3 : Nat) (a4 : Nat) (h0 : 0 ≤ a0 ∧ a0 ≤ 2388 ∧ a0 ≤ ((a4 : Nat) : Int)) (h1 : 0 ≤ a1 ∧ a1 < a2 ∧ 1 ≤ a2) (h2 : (1 : Int) ≤ a2) (h3 : 2147483648 - a2 < ((a3 + 1 : Nat) : Int)) (h4 : ¬ (a0 < a2)) (r0 : -2147483648 ≤ a0 ∧ a0 < 2147483648) (r1 : -2147483648 ≤ a1 ∧ a1 < 2147483648) (r2 : -2147483648 ≤ a2 ∧ a2 < 2147483648) : 0 ≤ a1 ∧ a1 < ((2400 : Nat) : Int) := by first | (clear h0 h2 h3 h4; omega) | (clear h0; omega) | omega
theorem z_X11_group_7 (a0 : Int) (a1 : Int) (a2 : Int) (a3 : Nat) (a4 : Nat) (h0 : 0 ≤ a0 ∧ a0 ≤ 2388 ∧ a0 ≤ ((a4 : Nat) : Int)) (h1 : 0 ≤ a1 ∧ a1 < a2 ∧ 1 ≤ a2) (h2 : (1 : Int) ≤ a2) (h3 : 2147483648 - a2 < ((a3 + 1 : Nat) : Int)) (h4 : ¬ (a0 < a2)) (r0 : -2147483648 ≤ a0 ∧ a0 < 2147483648) (r1 : -2147483648 ≤ a1 ∧ a1 < 2147483648) (r2 : -2147483648 ≤ a2 ∧ a2 < 2147483648) : 0 ≤ a1 ∧ a1 < ((a4 : Nat) : Int) := by first | (clear h2 h3 h4; omega) | omega
theorem z_X11_group_8 (a0 : Int) (a1 : Int) (a2 : Int) (h0 : a0 = a2) (h1 : 0 ≤ a0 ∧ a0 ≤ 11 ∧ 0 ≤ a1) (r0 : -2147483648 ≤ a0 ∧ a0 < 2147483648) : 0 ≤ a0 ∧ a0 ≤ 11 := by omega
theorem z_X11_group_9 (a0 : Int) (a1 : Int) (a2 : Int) (a3 : Nat) (a4 : Nat) (h0 : 0 ≤ a0 ∧ a0 ≤ 2388 ∧ a0 ≤ ((a4 : Nat) : Int)) (h1 : 0 ≤ a1 ∧ a1 < a2 ∧ 1 ≤ a2) (h2 : (1 : Int) ≤ a2) (h3 : 2147483648 - a2 < ((a3 + 1 : Nat) : Int)) (h4 : ¬ (a0 < a2)) (h5 : ¬ (a2 = a0)) (r0 : -2147483648 ≤ a0 ∧ a0 < 2147483648) (r1 : -2147483648 ≤ a1 ∧ a1 < 2147483648) (r2 : -2147483648 ≤ a2 ∧ a2 < 2147483648) : 0 ≤ a2 ∧ a2 < ((2400 : Nat) : Int) := by first | (clear h0; omega) | omega
theorem z_X11_group_10 (a0 : Int) (a1 : Int) (a2 : Int) (a3 : Nat) (a4 : Nat) (h0 : 0 ≤ a0 ∧ a0 ≤ 2388 ∧ a0 ≤ ((a4 : Nat) : Int)) (h1 : 0 ≤ a1 ∧ a1 < a2 ∧ 1 ≤ a2) (h2 : (1 : Int) ≤ a2) (h3 : 2147483648 - a2 < ((a3 + 1 : Nat) : Int)) (h4 : ¬ (a0 < a2)) (h5 : ¬ (a2 = a0)) (r0 : -2147483648 ≤ a0 ∧ a0 < 2147483648) (r1 : -2147483648 ≤ a1 ∧ a1 < 2147483648) (r2 : -2147483648 ≤ a2 ∧ a2 < 2147483648) : 0 ≤ a2 ∧ a2 < ((a4 : Nat) : Int) := by omega
theorem z_X11_group_11 (a0 : Int) (a1 : Int) (a2 : Int) (h0 : a0 = a2) (h1 : 0 ≤ a0 ∧ a0 ≤ 11 ∧ 0 ≤ a1) (r0 : -2147483648 ≤ a0 ∧ a0 < 2147483648) : 0 ≤ a0 ∧ a0 ≤ 11 := by omega
theorem z_X11_group_12 (a0 : Int) (a1 : Int) (a2 : Int) (a3 : Nat) (a4 : Nat) (h0 : 0 ≤ a0 ∧ a0 ≤ 2388 ∧ a0 ≤ ((a4 : Nat) : Int)) (h1 : 0 ≤ a1 ∧ a1 < a2 ∧ 1 ≤ a2) (h2 : (1 : Int) ≤ a2) (h3 : 2147483648 - a2 < ((a3 + 1 : Nat) : Int)) (h4 : ¬ (a0 < a2)) (h5 : ¬ (a2 = a0)) (r0 : -2147483648 ≤ a0 ∧ a0 < 2147483648) (r1 : -2147483648 ≤ a1 ∧ a1 < 2147483648) (r2 : -2147483648 ≤ a2 ∧ a2 < 2147483648) : 0 ≤ a1 ∧ a1 < ((2400 : Nat) : Int) := by first | (clear h0 h2 h3 h4 h5; omega) | (clear h0; omega) | omega
theorem z_X11_group_13 (a0 : Int) (a1 : Int) (a2 : Int) (a3 : Nat) (a4 : Nat) (h0 : 0 ≤ a0 ∧ a0 ≤ 2388 ∧ a0 ≤ ((a4 : Nat) : Int)) (h1 : 0 ≤ a1 ∧ a1 < a2 ∧ 1 ≤ a2) (h2 : (1 : Int) ≤ a2) (h3 : 2147483648 - a2 < ((a3 + 1 : Nat) : Int)) (h4 : ¬ (a0 < a2)) (h5 : ¬ (a2 = a0)) (r0 : -2147483648 ≤ a0 ∧ a0 < 2147483648) (r1 : -2147483648 ≤ a1 ∧ a1 < 2147483648) (r2 : -2147483648 ≤ a2 ∧ a2 < 2147483648) : 0 ≤ a1 ∧ a1 < ((a4 : Nat) : Int) := by first | (clear h2 h3 h4 h5; omega) | omega
theorem z_X11_group_14 (a0 : Int) (a1 : Int) (a2 : Int) (h0 : a0 = a2) (h1 : 0 ≤ a0 ∧ a0 ≤ 11 ∧ 0 ≤ a1) (r0 : -2147483648 ≤ a0 ∧ a0 < 2147483648) : 0 ≤ a0 ∧ a0 ≤ 11 := by omega
theorem z_X11_group_15 (a0 : Int) (a1 : Int) (a2 : Int) (a3 : Nat) (a4 : Nat) (h0 : 0 ≤ a0 ∧ a0 ≤ 2388 ∧ a0 ≤ ((a4 : Nat) : Int)) (h1 : 0 ≤ a1 ∧ a1 < a2 ∧ 1 ≤ a2) (h2 : (1 : Int) ≤ a2) (h3 : 2147483648 - a2 < ((a3 + 1 : Nat) : Int)) (h4 : ¬ (a0 < a2)) (h5 : ¬ (a2 = a0)) (r0 : -2147483648 ≤ a0 ∧ a0 < 2147483648) (r1 : -2147483648 ≤ a1 ∧ a1 < 2147483648) (r2 : -2147483648 ≤ a2 ∧ a2 < 2147483648) : 0 ≤ a1 ∧ a1 ≤ a2 := by first | (clear h0; omega) | omega
abbrev rm_X11_group : Room := { frames := 5, cells := 0, slots := 0, locals := 122 }
set_option maxHeartbeats 4000000 in
set_option maxRecDepth 100000 in
theorem c_X11_group (l : Launch) (E : XE) (K : Nat → Nat) (F : Nat → Nat → Nat) (tl z0 z1 z2 z3 z4 z5 z6 z7 z8 z9 z10 z11 z12 z13 z14 z15 z16 z17 z18 z19 z20 : Int32) (ar0 ar1 ar2 ar3 ar4 ar5 ar6 ar7 ar8 ar9 ar10 : Nat → Int32) (a : Nat) (p0 : Int32) (p1 : Int32) (ha : K a = 13) (hR : RV ar1) : Met l yX11_group (xw yX11_group cX11_group 6 (some .int)) rm_X11_group (va_Pc [.ref a, .int p0, .int p1] (XP E K F (tl, [z0, z1, z2, z3, z4, z5, z6, z7, z8, z9, z10, z11, z12, z13, z14, z15, z16, z17, z18, z19, z20], [ar0, ar1, ar2, ar3, ar4, ar5, ar6, ar7, ar8, ar9, ar10]))) (XQ E (fun v (u : Int32 × Int32 × Int32 × (Nat → Int32) × (Nat → Int32) × (Nat → Int32)) => ∃ r : Int32, v = .int r) (fun u H => TW E K F (tl, [u.1, z1, z2, u.2.1, u.2.2.1, z5, z6, z7, z8, z9, z10, z11, z12, z13, z14, z15, z16, z17, z18, z19, z20], [ar0, ar1, u.2.2.2.1, u.2.2.2.2.1, u.2.2.2.2.2, ar5, ar6, ar7, ar8, ar9, ar10]) [] H)) 0 0 (xA E) := by
  refine x_enter (by decide) (Nat.le_of_ble_eq_true rfl) ?_
  intro p e s m args below meth c Q S hr hlk hnm hQ hP ls hl
  obtain ⟨hz, hK, hT⟩ := hP
  obtain ⟨hx, hb, -, -, -⟩ := id S
  obtain ⟨H, hT, hS, hgo⟩ : ∃ H : Heap, TW E K F (tl, [z0, z1, z2, z3, z4, z5, z6, z7, z8, z9, z10, z11, z12, z13, z14, z15, z16, z17, z18, z19, z20], [ar0, ar1, ar2, ar3, ar4, ar5, ar6, ar7, ar8, ar9, ar10]) [] H ∧ va_S (xA E) s.heap H [] ∧ H = s.heap := ⟨_, hT, va_S.rf, rfl⟩
  rw [← hgo]
  have hl : lv_has ls 6 [(0, .ref a), (1, .int p0), (2, .int p1)] := hl
  refine lv_aload_n hx hb dX11_group_0 rfl (lv_at hl 0 rfl) ?_
  refine lv_iconst (v := 0) hx hb dX11_group_1 (by decide) ?_
  refine pX11_0 (kq := []) (v := 0) S hK hT hS ha kf_X11_134 (Nat.le_of_ble_eq_true rfl) dX11_group_2 (fun _ h => by cases h) (fun H locs hT hS => ?_)
  have hT : TW E K F (tl, [0, z1, z2, z3, z4, z5, z6, z7, z8, z9, z10, z11, z12, z13, z14, z15, z16, z17, z18, z19, z20], [ar0, ar1, ar2, ar3, ar4, ar5, ar6, ar7, ar8, ar9, ar10]) [] H := hT
  refine lv_iload_n hx hb dX11_group_5 rfl (lv_at hl 1 rfl) ?_
  refine lv_iconst (v := (-1)) hx hb dX11_group_6 (by decide) ?_
  refine xi_clt (tgt := 20) hx hb (rfl : Int32.toInt p0 = p0.toInt) ((by decide) : Int32.toInt (-1) = (-1 : Int)) dX11_group_7 (by decide) (fun c1 => ?_) (fun c1 => ?_)
  · refine lv_iconst (v := (-1)) hx hb dX11_group_20 (by decide) ?_
    exact x_ri hx hb hr hlk hQ (Nat.le_of_ble_eq_true rfl) (Nat.le_of_ble_eq_true rfl) hS dX11_group_21 (0, z3, z4, ar2, ar3, ar4) ⟨_, rfl⟩ hT.nil
  · refine lv_iload_n hx hb dX11_group_10 rfl (lv_at hl 2 rfl) ?_
    refine lv_i2l (v := p1.toInt64) hx hb dX11_group_11 rfl ?_
    refine lv_lconst (v := (0 : Int64)) hx hb dX11_group_12 (by decide) ?_
    refine lv_lconst (v := (1 : Int64)) hx hb dX11_group_13 (by decide) ?_
    refine x_clp (x_runS (As := [.long p1.toInt64, .long (0 : Int64), .long (1 : Int64)]) (rest := []) S (c_X11_in l E K F tl 0 z1 z2 z3 z4 z5 z6 z7 z8 z9 z10 z11 z12 z13 z14 z15 z16 z17 z18 z19 z20 ar0 ar1 ar2 ar3 ar4 ar5 ar6 ar7 ar8 ar9 ar10 H p1.toInt64 (0 : Int64) (1 : Int64) p1.toInt (0 : Int) (1 : Int) (xl_i2l (rfl : Int32.toInt p1 = p1.toInt)) (by decide) (by decide)) ms_X11_in km_X11_139 rfl rfl ⟨Nat.le_of_ble_eq_true rfl, Nat.le_of_ble_eq_true rfl⟩ hK (fun _ => XPh.blind) (fun U hU hW => XPh.at hK hz hS hT hU hW) rfl hl.1 (Nat.le_of_ble_eq_true rfl) dX11_group_14 ⟨Nat.le_of_ble_eq_true rfl, Nat.le_of_ble_eq_true rfl⟩) hS ?_
    rintro _ _ locs ⟨x2, rfl, b3, t4⟩ hS
    have t4 : (x2.toInt = 1 ∧ (0 : Int) ≤ p1.toInt ∧ p1.toInt ≤ (1 : Int)) ∨ (x2.toInt = 0 ∧ (p1.toInt < (0 : Int) ∨ (1 : Int) < p1.toInt)) := t4
    refine xi_zne (tgt := 22) hx hb (rfl : Int32.toInt x2 = x2.toInt) dX11_group_17 (by decide) (fun c5 => ?_) (fun c5 => ?_)
    · refine lv_aload_n hx hb dX11_group_22 rfl (lv_at hl 0 rfl) ?_
      refine x_cv0 (x_runV (b := a) (As := []) (rest := []) S (c_X11_findQueue l E K F tl 0 z1 z2 z3 z4 z5 z6 z7 z8 z9 z10 z11 z12 z13 z14 z15 z16 z17 z18 z19 z20 ar0 ar1 ar2 ar3 ar4 ar5 ar6 ar7 ar8 ar9 ar10 a ha hR) mv_X11_findQueue km_X11_218 rfl rfl ⟨Nat.le_of_ble_eq_true rfl, Nat.le_of_ble_eq_true rfl⟩ (rc_13 hK hT ha) hK (fun _ => XP.blind) (fun U hU hW => XP.at hK hz hS hT hU hW) rfl hl.1 (Nat.le_of_ble_eq_true rfl) dX11_group_23 ⟨Nat.le_of_ble_eq_true rfl, Nat.le_of_ble_eq_true rfl⟩) hS ?_
      rintro ⟨u6, u7, f8, f9, f10⟩ H locs t11 hT hS
      have hT : TW E K F (tl, [0, z1, z2, u6, u7, z5, z6, z7, z8, z9, z10, z11, z12, z13, z14, z15, z16, z17, z18, z19, z20], [ar0, ar1, f8, f9, f10, ar5, ar6, ar7, ar8, ar9, ar10]) [] H := hT
      have t11 : 0 ≤ u7.toInt ∧ u7.toInt ≤ 2388 ∧ u7.toInt ≤ (((fV ar1 f9 f10) : Nat) : Int) := t11
      refine lv_iconst (v := 0) hx hb dX11_group_26 (by decide) ?_
      refine lv_istore_n (lv' := [(3, .int 0), (0, .ref a), (1, .int p0), (2, .int p1)]) hx hb dX11_group_27 rfl hl (by decide) rfl (fun ls hl => ?_)
      refine lv_iconst (v := 0) hx hb dX11_group_28 (by decide) ?_
      refine lv_istore (lv' := [(4, .int 0), (3, .int 0), (0, .ref a), (1, .int p0), (2, .int p1)]) hx hb dX11_group_29 hl (by decide) rfl (fun ls hl => ?_)
      refine lv_iconst (v := 1) hx hb dX11_group_31 (by decide) ?_
      refine lv_istore (lv' := [(5, .int 1), (4, .int 0), (3, .int 0), (0, .ref a), (1, .int p0), (2, .int p1)]) hx hb dX11_group_32 hl (by decide) rfl (fun ls hl => ?_)
      have L34 : ∀ (N17 : Nat) (x14 : Int32) (x15 : Int32) (x16 : Int32) (H : Heap) (locs : List Loc) (ls : Array Slot), 0 ≤ x15.toInt ∧ x15.toInt < x16.toInt ∧ 1 ≤ x16.toInt → (1 : Int) ≤ x16.toInt → 2147483648 - x16.toInt < ((N17 : Nat) : Int) → TW E K F (tl, [0, z1, z2, u6, u7, z5, z6, z7, z8, z9, z10, z11, z12, z13, z14, z15, z16, z17, z18, z19, z20], [ar0, ar1, f8, f9, f10, ar5, ar6, ar7, ar8, ar9, ar10]) [] H → va_S (xA E) s.heap H locs → lv_has ls 6 [(0, .ref a), (1, .int p0), (2, .int p1), (3, .int x14), (4, .int x15), (5, .int x16)] → W p l e rm_X11_group s m args below meth c H locs 0 0 Q (F0 m 34 ls []) := by
        intro N17
        induction N17 with
        | zero =>
          intro x14 x15 x16 H locs ls hf18 hf19 hm20
          exact absurd hm20 (z_X11_group_1 x15.toInt x16.toInt hf18 hf19 (xr x15) (xr x16))
        | succ N17 ih21 =>
          intro x14 x15 x16 H locs ls hf18 hf19 hm20 hT hS hl
          refine lv_iload hx hb dX11_group_34 (lv_at hl 5 rfl) ?_
          refine lv_aload_n hx hb dX11_group_36 rfl (lv_at hl 0 rfl) ?_
          refine gX11_19 S hK hT ha kf_X11_203 dX11_group_37 (v := u7) rfl ?_
          refine xi_cgt (tgt := 107) hx hb (rfl : Int32.toInt x16 = x16.toInt) (rfl : Int32.toInt u7 = u7.toInt) dX11_group_40 (by decide) (fun c22 => ?_) (fun c22 => ?_)
          · refine lv_iload_n hx hb dX11_group_107 rfl (lv_at hl 1 rfl) ?_
            refine lv_iconst (v := (-1)) hx hb dX11_group_108 (by decide) ?_
            refine xi_cne (tgt := 116) hx hb (rfl : Int32.toInt p0 = p0.toInt) ((by decide) : Int32.toInt (-1) = (-1 : Int)) dX11_group_109 (by decide) (fun c23 => ?_) (fun c23 => ?_)
            · refine lv_iconst (v := (-1)) hx hb dX11_group_116 (by decide) ?_
              exact x_ri hx hb hr hlk hQ (Nat.le_of_ble_eq_true rfl) (Nat.le_of_ble_eq_true rfl) hS dX11_group_117 (0, u6, u7, f8, f9, f10) ⟨_, rfl⟩ hT.nil
            · refine lv_iload_n hx hb dX11_group_112 rfl (lv_at hl 3 rfl) ?_
              refine lv_goto (tgt := 117) hx hb dX11_group_113 (by decide) ?_
              exact x_ri hx hb hr hlk hQ (Nat.le_of_ble_eq_true rfl) (Nat.le_of_ble_eq_true rfl) hS dX11_group_117 (0, u6, u7, f8, f9, f10) ⟨_, rfl⟩ hT.nil
          · refine lv_iload hx hb dX11_group_43 (lv_at hl 5 rfl) ?_
            refine lv_aload_n hx hb dX11_group_45 rfl (lv_at hl 0 rfl) ?_
            refine gX11_19 S hK hT ha kf_X11_203 dX11_group_46 (v := u7) rfl ?_
            have J101 : ∀ (x24 : Int32) (x25 : Int32) (H : Heap) (locs : List Loc) (ls : Array Slot), 0 ≤ x25.toInt ∧ x25.toInt ≤ x16.toInt → TW E K F (tl, [0, z1, z2, u6, u7, z5, z6, z7, z8, z9, z10, z11, z12, z13, z14, z15, z16, z17, z18, z19, z20], [ar0, ar1, f8, f9, f10, ar5, ar6, ar7, ar8, ar9, ar10]) [] H → va_S (xA E) s.heap H locs → lv_has ls 6 [(0, .ref a), (1, .int p0), (2, .int p1), (3, .int x24), (4, .int x25), (5, .int x16)] → W p l e rm_X11_group s m args below meth c H locs 0 0 Q (F0 m 101 ls []) := by
              intro x24 x25 H locs ls hf26 hT hS hl
              refine xi_iinc (n := 1) (lv' := fun z9 => [(5, .int z9), (0, .ref a), (1, .int p0), (2, .int p1), (3, .int x24), (4, .int x25)]) (k := 5) hx hb (rfl : Int32.toInt x16 = x16.toInt) (by decide) dX11_group_101 hl rfl (by decide) (fun _ => rfl) (fun x27 ls t28 hl => ?_)
              have hl : lv_has ls 6 [(5, .int x27), (0, .ref a), (1, .int p0), (2, .int p1), (3, .int x24), (4, .int x25)] := hl
              refine lv_goto (tgt := 34) hx hb dX11_group_104 (by decide) ?_
              exact ih21 x24 x25 x27 _ _ _ (z_X11_group_2 u7.toInt x15.toInt x16.toInt x25.toInt x27.toInt N17 (fV ar1 f9 f10) t11 hf18 hf19 hm20 c22 hf26 t28 (xr u7) (xr x15) (xr x16) (xr x25) (xr x27)) (z_X11_group_3 u7.toInt x15.toInt x16.toInt x25.toInt x27.toInt N17 (fV ar1 f9 f10) t11 hf18 hf19 hm20 c22 hf26 t28 (xr u7) (xr x15) (xr x16) (xr x25) (xr x27)) (z_X11_group_4 u7.toInt x15.toInt x16.toInt x25.toInt x27.toInt N17 (fV ar1 f9 f10) t11 hf18 hf19 hm20 c22 hf26 t28 (xr u7) (xr x15) (xr x16) (xr x25) (xr x27)) hT.nil hS (lv_sub hl [1, 2, 3, 4, 5, 0] rfl)
            have J69 : ∀ (H : Heap) (locs : List Loc) (ls : Array Slot), TW E K F (tl, [0, z1, z2, u6, u7, z5, z6, z7, z8, z9, z10, z11, z12, z13, z14, z15, z16, z17, z18, z19, z20], [ar0, ar1, f8, f9, f10, ar5, ar6, ar7, ar8, ar9, ar10]) [] H → va_S (xA E) s.heap H locs → lv_has ls 6 [(0, .ref a), (1, .int p0), (2, .int p1), (3, .int x14), (4, .int x15), (5, .int x16)] → W p l e rm_X11_group s m args below meth c H locs 0 0 Q (F0 m 69 ls []) := by
              intro H locs ls hT hS hl
              refine lv_iload_n hx hb dX11_group_69 rfl (lv_at hl 3 rfl) ?_
              refine lv_iload_n hx hb dX11_group_70 rfl (lv_at hl 1 rfl) ?_
              refine xi_cne (tgt := 94) hx hb (rfl : Int32.toInt x14 = x14.toInt) (rfl : Int32.toInt p0 = p0.toInt) dX11_group_71 (by decide) (fun c29 => ?_) (fun c29 => ?_)
              · refine xi_iinc (n := 1) (lv' := fun z9 => [(3, .int z9), (0, .ref a), (1, .int p0), (2, .int p1), (4, .int x15), (5, .int x16)]) (k := 3) hx hb (rfl : Int32.toInt x14 = x14.toInt) (by decide) dX11_group_94 hl rfl (by decide) (fun _ => rfl) (fun x30 ls t31 hl => ?_)
                have hl : lv_has ls 6 [(3, .int x30), (0, .ref a), (1, .int p0), (2, .int p1), (4, .int x15), (5, .int x16)] := hl
                refine lv_iload hx hb dX11_group_97 (lv_at hl 5 rfl) ?_
                refine lv_istore (lv' := [(4, .int x16), (3, .int x30), (0, .ref a), (1, .int p0), (2, .int p1), (5, .int x16)]) hx hb dX11_group_99 hl (by decide) rfl (fun ls hl => ?_)
                exact J101 x30 x16 _ _ _ (z_X11_group_5 u7.toInt x15.toInt x16.toInt N17 (fV ar1 f9 f10) t11 hf18 hf19 hm20 c22 (xr u7) (xr x15) (xr x16)) hT.nil hS (lv_sub hl [2, 3, 4, 1, 0, 5] rfl)
              · refine lv_iload_n hx hb dX11_group_74 rfl (lv_at hl 2 rfl) ?_
                refine xi_zne (tgt := 88) hx hb (rfl : Int32.toInt p1 = p1.toInt) dX11_group_75 (by decide) (fun c32 => ?_) (fun c32 => ?_)
                · refine lv_iload hx hb dX11_group_88 (lv_at hl 5 rfl) ?_
                  refine lv_iload hx hb dX11_group_90 (lv_at hl 4 rfl) ?_
                  refine xi_isub hx hb (rfl : Int32.toInt x16 = x16.toInt) (rfl : Int32.toInt x15 = x15.toInt) dX11_group_92 (fun x33 t34 => ?_)
                  exact x_ri hx hb hr hlk hQ (Nat.le_of_ble_eq_true rfl) (Nat.le_of_ble_eq_true rfl) hS dX11_group_93 (0, u6, u7, f8, f9, f10) ⟨_, rfl⟩ hT.nil
                · refine lv_aload_n hx hb dX11_group_78 rfl (lv_at hl 0 rfl) ?_
                  refine gX11_17 S hK hT ha kf_X11_51 dX11_group_79 (fun hk35 => ?_)
                  refine lv_iload hx hb dX11_group_82 (lv_at hl 4 rfl) ?_
                  refine tld_0 S hK hT hk35 (at_43 (f := f9) rfl) (by decide) (z_X11_group_6 u7.toInt x15.toInt x16.toInt N17 (fV ar1 f9 f10) t11 hf18 hf19 hm20 c22 (xr u7) (xr x15) (xr x16)) dX11_group_84 (fun x36 w37 o38 => ?_)
                  have v40 : 0 ≤ x36.toInt ∧ x36.toInt ≤ 11 ∧ 0 ≤ (aI ar1 (10 * x36.toInt + (0 : Int))) := fV_rule (f4 := f10) w37 (z_X11_group_7 u7.toInt x15.toInt x16.toInt N17 (fV ar1 f9 f10) t11 hf18 hf19 hm20 c22 (xr u7) (xr x15) (xr x16))
                  have v41 : (-1 ≤ (aI ar1 (10 * x36.toInt + (0 : Int))) ∧ (aI ar1 (10 * x36.toInt + (0 : Int))) ≤ 5) ∧ (0 ≤ (aI ar1 (10 * x36.toInt + (1 : Int))) ∧ (aI ar1 (10 * x36.toInt + (1 : Int))) ≤ 2) ∧ (0 ≤ (aI ar1 (10 * x36.toInt + (2 : Int))) ∧ (aI ar1 (10 * x36.toInt + (2 : Int))) ≤ 2) ∧ (-1 ≤ (aI ar1 (10 * x36.toInt + (3 : Int))) ∧ (aI ar1 (10 * x36.toInt + (3 : Int))) ≤ 2) ∧ ((aI ar1 (10 * x36.toInt + (0 : Int))) = 1 ∨ (aI ar1 (10 * x36.toInt + (0 : Int))) = 3 ∨ (aI ar1 (10 * x36.toInt + (0 : Int))) = 4 → 0 ≤ (aI ar1 (10 * x36.toInt + (3 : Int)))) := RV.row hR (z_X11_group_8 x36.toInt (aI ar1 (10 * x36.toInt + (0 : Int))) (aI f9 x15.toInt) w37 v40 (xr x36))
                  refine lv_goto (tgt := 93) hx hb dX11_group_85 (by decide) ?_
                  exact x_ri hx hb hr hlk hQ (Nat.le_of_ble_eq_true rfl) (Nat.le_of_ble_eq_true rfl) hS dX11_group_93 (0, u6, u7, f8, f9, f10) ⟨_, rfl⟩ hT.nil
            refine xi_ceq (tgt := 69) hx hb (rfl : Int32.toInt x16 = x16.toInt) (rfl : Int32.toInt u7 = u7.toInt) dX11_group_49 (by decide) (fun c42 => ?_) (fun c42 => ?_)
            · exact J69 _ _ _ hT.nil hS (lv_sub hl [0, 1, 2, 3, 4, 5] rfl)
            · refine lv_aload_n hx hb dX11_group_52 rfl (lv_at hl 0 rfl) ?_
              refine gX11_17 S hK hT ha kf_X11_51 dX11_group_53 (fun hk43 => ?_)
              refine lv_iload hx hb dX11_group_56 (lv_at hl 5 rfl) ?_
              refine tld_0 S hK hT hk43 (at_43 (f := f9) rfl) (by decide) (z_X11_group_9 u7.toInt x15.toInt x16.toInt N17 (fV ar1 f9 f10) t11 hf18 hf19 hm20 c22 c42 (xr u7) (xr x15) (xr x16)) dX11_group_58 (fun x44 w45 o46 => ?_)
              have v48 : 0 ≤ x44.toInt ∧ x44.toInt ≤ 11 ∧ 0 ≤ (aI ar1 (10 * x44.toInt + (0 : Int))) := fV_rule (f4 := f10) w45 (z_X11_group_10 u7.toInt x15.toInt x16.toInt N17 (fV ar1 f9 f10) t11 hf18 hf19 hm20 c22 c42 (xr u7) (xr x15) (xr x16))
              have v49 : (-1 ≤ (aI ar1 (10 * x44.toInt + (0 : Int))) ∧ (aI ar1 (10 * x44.toInt + (0 : Int))) ≤ 5) ∧ (0 ≤ (aI ar1 (10 * x44.toInt + (1 : Int))) ∧ (aI ar1 (10 * x44.toInt + (1 : Int))) ≤ 2) ∧ (0 ≤ (aI ar1 (10 * x44.toInt + (2 : Int))) ∧ (aI ar1 (10 * x44.toInt + (2 : Int))) ≤ 2) ∧ (-1 ≤ (aI ar1 (10 * x44.toInt + (3 : Int))) ∧ (aI ar1 (10 * x44.toInt + (3 : Int))) ≤ 2) ∧ ((aI ar1 (10 * x44.toInt + (0 : Int))) = 1 ∨ (aI ar1 (10 * x44.toInt + (0 : Int))) = 3 ∨ (aI ar1 (10 * x44.toInt + (0 : Int))) = 4 → 0 ≤ (aI ar1 (10 * x44.toInt + (3 : Int)))) := RV.row hR (z_X11_group_11 x44.toInt (aI ar1 (10 * x44.toInt + (0 : Int))) (aI f9 x16.toInt) w45 v48 (xr x44))
              refine lv_aload_n hx hb dX11_group_59 rfl (lv_at hl 0 rfl) ?_
              refine gX11_17 S hK hT ha kf_X11_51 dX11_group_60 (fun hk50 => ?_)
              refine lv_iload hx hb dX11_group_63 (lv_at hl 4 rfl) ?_
              refine tld_0 S hK hT hk50 (at_43 (f := f9) rfl) (by decide) (z_X11_group_12 u7.toInt x15.toInt x16.toInt N17 (fV ar1 f9 f10) t11 hf18 hf19 hm20 c22 c42 (xr u7) (xr x15) (xr x16)) dX11_group_65 (fun x51 w52 o53 => ?_)
              have v55 : 0 ≤ x51.toInt ∧ x51.toInt ≤ 11 ∧ 0 ≤ (aI ar1 (10 * x51.toInt + (0 : Int))) := fV_rule (f4 := f10) w52 (z_X11_group_13 u7.toInt x15.toInt x16.toInt N17 (fV ar1 f9 f10) t11 hf18 hf19 hm20 c22 c42 (xr u7) (xr x15) (xr x16))
              have v56 : (-1 ≤ (aI ar1 (10 * x51.toInt + (0 : Int))) ∧ (aI ar1 (10 * x51.toInt + (0 : Int))) ≤ 5) ∧ (0 ≤ (aI ar1 (10 * x51.toInt + (1 : Int))) ∧ (aI ar1 (10 * x51.toInt + (1 : Int))) ≤ 2) ∧ (0 ≤ (aI ar1 (10 * x51.toInt + (2 : Int))) ∧ (aI ar1 (10 * x51.toInt + (2 : Int))) ≤ 2) ∧ (-1 ≤ (aI ar1 (10 * x51.toInt + (3 : Int))) ∧ (aI ar1 (10 * x51.toInt + (3 : Int))) ≤ 2) ∧ ((aI ar1 (10 * x51.toInt + (0 : Int))) = 1 ∨ (aI ar1 (10 * x51.toInt + (0 : Int))) = 3 ∨ (aI ar1 (10 * x51.toInt + (0 : Int))) = 4 → 0 ≤ (aI ar1 (10 * x51.toInt + (3 : Int)))) := RV.row hR (z_X11_group_14 x51.toInt (aI ar1 (10 * x51.toInt + (0 : Int))) (aI f9 x15.toInt) w52 v55 (xr x51))
              refine xi_ceq (tgt := 101) hx hb (rfl : Int32.toInt x44 = x44.toInt) (rfl : Int32.toInt x51 = x51.toInt) dX11_group_66 (by decide) (fun c57 => ?_) (fun c57 => ?_)
              · exact J101 x14 x15 _ _ _ (z_X11_group_15 u7.toInt x15.toInt x16.toInt N17 (fV ar1 f9 f10) t11 hf18 hf19 hm20 c22 c42 (xr u7) (xr x15) (xr x16)) hT.nil hS (lv_sub hl [0, 1, 2, 3, 4, 5] rfl)
              · exact J69 _ _ _ hT.nil hS (lv_sub hl [0, 1, 2, 3, 4, 5] rfl)
      exact L34 4294967297 0 0 1 _ _ _ (by decide) (by decide) (by decide) hT.nil hS (lv_sub hl [3, 4, 5, 2, 1, 0] rfl)
    · refine lv_iconst (v := (-1)) hx hb dX11_group_20 (by decide) ?_
      exact x_ri hx hb hr hlk hQ (Nat.le_of_ble_eq_true rfl) (Nat.le_of_ble_eq_true rfl) hS dX11_group_21 (0, z3, z4, ar2, ar3, ar4) ⟨_, rfl⟩ hT.nil

theorem z_X11_asked_1 (a0 : Int) (a1 : Int) (h0 : 0 ≤ a1 ∧ a1 ≤ 2400) (h1 : a0 = -1 ∨ (0 ≤ a0 ∧ a0 < a1)) (h2 : a0 ≠ (-1 : Int)) (r0 : -2147483648 ≤ a0 ∧ a0 < 2147483648) (r1 : -2147483648 ≤ a1 ∧ a1 < 2147483648) : 0 ≤ a0 ∧ a0 < ((2400 : Nat) : Int) := by omega
theorem z_X11_asked_2 (a0 : Int) (a1 : Int) (h0 : 0 ≤ a1 ∧ a1 ≤ 2400) (h1 : a0 = -1 ∨ (0 ≤ a0 ∧ a0 < a1)) (h2 : a0 ≠ (-1 : Int)) (r0 : -2147483648 ≤ a0 ∧ a0 < 2147483648) (r1 : -2147483648 ≤ a1 ∧ a1 < 2147483648) : 0 ≤ a0 ∧ a0 < ((2400 : Nat) : Int) := by omega
theorem z_X11_asked_3 (a0 : Int) (a1 : Int) (h0 : 0 ≤ a1 ∧ a1 ≤ 2400) (h1 : a0 = (-1 : Int)) (r0 : -2147483648 ≤ a0 ∧ a0 < 2147483648) (r1 : -2147483648 ≤ a1 ∧ a1 < 2147483648) : a0 = -1 ∨ (0 ≤ a0 ∧ a0 < a1) := by omega
theorem z_X11_asked_4 (a0 : Int) (h0 : 0 ≤ a0 ∧ a0 ≤ 2400) (r0 : -2147483648 ≤ a0 ∧ a0 < 2147483648) : -2147483648 ≤ a0 ∧ a0 < 2147483648 := by omega
theorem z_X11_asked_5 (a0 : Int) (a1 : Int) (a2 : Int) (h0 : 0 ≤ a2 ∧ a2 ≤ 2400) (h1 : ¬ (a0 = (-1 : Int))) (h2 : (a1 = 1 ∧ (0 : Int) ≤ a0 ∧ a0 ≤ (a2 - (1 : Int))) ∨ (a1 = 0 ∧ (a0 < (0 : Int) ∨ (a2 - (1 : Int)) < a0))) (h3 : a1 ≠ 0) (r0 : -2147483648 ≤ a0 ∧ a0 < 2147483648) (r1 : -2147483648 ≤ a1 ∧ a1 < 2147483648) (r2 : -2147483648 ≤ a2 ∧ a2 < 2147483648) : a0 = -1 ∨ (0 ≤ a0 ∧ a0 < a2) := by first | (clear h3; omega) | omega
abbrev rm_X11_asked : Room := { frames := 1, cells := 0, slots := 0, locals := 25 }
set_option maxHeartbeats 4000000 in
set_option maxRecDepth 100000 in
theorem c_X11_asked (l : Launch) (E : XE) (K : Nat → Nat) (F : Nat → Nat → Nat) (tl z0 z1 z2 z3 z4 z5 z6 z7 z8 z9 z10 z11 z12 z13 z14 z15 z16 z17 z18 z19 z20 : Int32) (ar0 ar1 ar2 ar3 ar4 ar5 ar6 ar7 ar8 ar9 ar10 : Nat → Int32) (a : Nat) (p0 : Int32) (p1 : Int32) (ha : K a = 13) (e0 : 0 ≤ z12.toInt ∧ z12.toInt ≤ 2400) : Met l yX11_asked (xw yX11_asked cX11_asked 3 (some .int)) rm_X11_asked (va_Pc [.ref a, .int p0, .int p1] (XP E K F (tl, [z0, z1, z2, z3, z4, z5, z6, z7, z8, z9, z10, z11, z12, z13, z14, z15, z16, z17, z18, z19, z20], [ar0, ar1, ar2, ar3, ar4, ar5, ar6, ar7, ar8, ar9, ar10]))) (XQ E (fun v (u : Int32) => ∃ r : Int32, v = .int r) (fun u H => TW E K F (tl, [u, z1, z2, z3, z4, z5, z6, z7, z8, z9, z10, z11, z12, z13, z14, z15, z16, z17, z18, z19, z20], [ar0, ar1, ar2, ar3, ar4, ar5, ar6, ar7, ar8, ar9, ar10]) [] H)) 0 0 (xA E) := by
  refine x_enter (by decide) (Nat.le_of_ble_eq_true rfl) ?_
  intro p e s m args below meth c Q S hr hlk hnm hQ hP ls hl
  obtain ⟨hz, hK, hT⟩ := hP
  obtain ⟨hx, hb, -, -, -⟩ := id S
  obtain ⟨H, hT, hS, hgo⟩ : ∃ H : Heap, TW E K F (tl, [z0, z1, z2, z3, z4, z5, z6, z7, z8, z9, z10, z11, z12, z13, z14, z15, z16, z17, z18, z19, z20], [ar0, ar1, ar2, ar3, ar4, ar5, ar6, ar7, ar8, ar9, ar10]) [] H ∧ va_S (xA E) s.heap H [] ∧ H = s.heap := ⟨_, hT, va_S.rf, rfl⟩
  rw [← hgo]
  have hl : lv_has ls 3 [(0, .ref a), (1, .int p0), (2, .int p1)] := hl
  refine lv_aload_n hx hb dX11_asked_0 rfl (lv_at hl 0 rfl) ?_
  refine lv_iconst (v := 0) hx hb dX11_asked_1 (by decide) ?_
  refine pX11_0 (kq := []) (v := 0) S hK hT hS ha kf_X11_134 (Nat.le_of_ble_eq_true rfl) dX11_asked_2 (fun _ h => by cases h) (fun H locs hT hS => ?_)
  have hT : TW E K F (tl, [0, z1, z2, z3, z4, z5, z6, z7, z8, z9, z10, z11, z12, z13, z14, z15, z16, z17, z18, z19, z20], [ar0, ar1, ar2, ar3, ar4, ar5, ar6, ar7, ar8, ar9, ar10]) [] H := hT
  refine lv_iload_n hx hb dX11_asked_5 rfl (lv_at hl 2 rfl) ?_
  refine lv_i2l (v := p1.toInt64) hx hb dX11_asked_6 rfl ?_
  refine lv_lconst (v := (0 : Int64)) hx hb dX11_asked_7 (by decide) ?_
  refine lv_ldc2 (v := 2) hx hb S.2.2.2.1 (S.2.2.2.2 _ (List.mem_cons_of_mem _ kc_X11_137)) dX11_asked_8 ?_
  refine x_clp (x_runS (As := [.long p1.toInt64, .long (0 : Int64), .long (2 : Int64)]) (rest := []) S (c_X11_in l E K F tl 0 z1 z2 z3 z4 z5 z6 z7 z8 z9 z10 z11 z12 z13 z14 z15 z16 z17 z18 z19 z20 ar0 ar1 ar2 ar3 ar4 ar5 ar6 ar7 ar8 ar9 ar10 H p1.toInt64 (0 : Int64) (2 : Int64) p1.toInt (0 : Int) (2 : Int) (xl_i2l (rfl : Int32.toInt p1 = p1.toInt)) (by decide) (by decide)) ms_X11_in km_X11_139 rfl rfl ⟨Nat.le_of_ble_eq_true rfl, Nat.le_of_ble_eq_true rfl⟩ hK (fun _ => XPh.blind) (fun U hU hW => XPh.at hK hz hS hT hU hW) rfl hl.1 (Nat.le_of_ble_eq_true rfl) dX11_asked_11 ⟨Nat.le_of_ble_eq_true rfl, Nat.le_of_ble_eq_true rfl⟩) hS ?_
  rintro _ _ locs ⟨x1, rfl, b2, t3⟩ hS
  have t3 : (x1.toInt = 1 ∧ (0 : Int) ≤ p1.toInt ∧ p1.toInt ≤ (2 : Int)) ∨ (x1.toInt = 0 ∧ (p1.toInt < (0 : Int) ∨ (2 : Int) < p1.toInt)) := t3
  refine xi_zeq (tgt := 38) hx hb (rfl : Int32.toInt x1 = x1.toInt) dX11_asked_14 (by decide) (fun c4 => ?_) (fun c4 => ?_)
  · refine lv_iconst (v := (-1)) hx hb dX11_asked_38 (by decide) ?_
    exact x_ri hx hb hr hlk hQ (Nat.le_of_ble_eq_true rfl) (Nat.le_of_ble_eq_true rfl) hS dX11_asked_39 (0) ⟨_, rfl⟩ hT.nil
  · refine lv_iload_n hx hb dX11_asked_17 rfl (lv_at hl 1 rfl) ?_
    refine lv_iconst (v := (-1)) hx hb dX11_asked_18 (by decide) ?_
    have J40 : ∀ (H : Heap) (locs : List Loc) (ls : Array Slot), p0.toInt = -1 ∨ (0 ≤ p0.toInt ∧ p0.toInt < z12.toInt) → TW E K F (tl, [0, z1, z2, z3, z4, z5, z6, z7, z8, z9, z10, z11, z12, z13, z14, z15, z16, z17, z18, z19, z20], [ar0, ar1, ar2, ar3, ar4, ar5, ar6, ar7, ar8, ar9, ar10]) [] H → va_S (xA E) s.heap H locs → lv_has ls 3 [(0, .ref a), (1, .int p0), (2, .int p1)] → W p l e rm_X11_asked s m args below meth c H locs 0 0 Q (F0 m 40 ls []) := by
      intro H locs ls hf5 hT hS hl
      refine lv_iload_n hx hb dX11_asked_40 rfl (lv_at hl 1 rfl) ?_
      refine lv_iconst (v := (-1)) hx hb dX11_asked_41 (by decide) ?_
      refine xi_cne (tgt := 52) hx hb (rfl : Int32.toInt p0 = p0.toInt) ((by decide) : Int32.toInt (-1) = (-1 : Int)) dX11_asked_42 (by decide) (fun c6 => ?_) (fun c6 => ?_)
      · refine lv_iload_n hx hb dX11_asked_52 rfl (lv_at hl 2 rfl) ?_
        refine xi_zne (tgt := 65) hx hb (rfl : Int32.toInt p1 = p1.toInt) dX11_asked_53 (by decide) (fun c7 => ?_) (fun c7 => ?_)
        · refine lv_iload_n hx hb dX11_asked_65 rfl (lv_at hl 2 rfl) ?_
          refine lv_iconst (v := 1) hx hb dX11_asked_66 (by decide) ?_
          refine xi_cne (tgt := 79) hx hb (rfl : Int32.toInt p1 = p1.toInt) ((by decide) : Int32.toInt 1 = (1 : Int)) dX11_asked_67 (by decide) (fun c8 => ?_) (fun c8 => ?_)
          · refine lv_iload_n hx hb dX11_asked_79 rfl (lv_at hl 1 rfl) ?_
            refine lv_aload_n hx hb dX11_asked_80 rfl (lv_at hl 0 rfl) ?_
            refine gX11_44 S hK hT ha kf_X11_115 dX11_asked_81 (v := z13) rfl ?_
            refine xi_cne (tgt := 91) hx hb (rfl : Int32.toInt p0 = p0.toInt) (rfl : Int32.toInt z13 = z13.toInt) dX11_asked_84 (by decide) (fun c9 => ?_) (fun c9 => ?_)
            · refine lv_iconst (v := 0) hx hb dX11_asked_91 (by decide) ?_
              exact x_ri hx hb hr hlk hQ (Nat.le_of_ble_eq_true rfl) (Nat.le_of_ble_eq_true rfl) hS dX11_asked_92 (0) ⟨_, rfl⟩ hT.nil
            · refine lv_iconst (v := 1) hx hb dX11_asked_87 (by decide) ?_
              refine lv_goto (tgt := 92) hx hb dX11_asked_88 (by decide) ?_
              exact x_ri hx hb hr hlk hQ (Nat.le_of_ble_eq_true rfl) (Nat.le_of_ble_eq_true rfl) hS dX11_asked_92 (0) ⟨_, rfl⟩ hT.nil
          · refine lv_aload_n hx hb dX11_asked_70 rfl (lv_at hl 0 rfl) ?_
            refine gX11_42 S hK hT ha kf_X11_112 dX11_asked_71 (fun hk10 => ?_)
            refine lv_iload_n hx hb dX11_asked_74 rfl (lv_at hl 1 rfl) ?_
            refine al_0 S hK hT hk10 ar_54 (by decide) (z_X11_asked_1 p0.toInt z12.toInt e0 hf5 c6 (xr p0) (xr z12)) dX11_asked_75 (fun x11 o12 => ?_)
            refine lv_goto (tgt := 92) hx hb dX11_asked_76 (by decide) ?_
            exact x_ri hx hb hr hlk hQ (Nat.le_of_ble_eq_true rfl) (Nat.le_of_ble_eq_true rfl) hS dX11_asked_92 (0) ⟨_, rfl⟩ hT.nil
        · refine lv_aload_n hx hb dX11_asked_56 rfl (lv_at hl 0 rfl) ?_
          refine gX11_41 S hK hT ha kf_X11_109 dX11_asked_57 (fun hk13 => ?_)
          refine lv_iload_n hx hb dX11_asked_60 rfl (lv_at hl 1 rfl) ?_
          refine al_0 S hK hT hk13 ar_53 (by decide) (z_X11_asked_2 p0.toInt z12.toInt e0 hf5 c6 (xr p0) (xr z12)) dX11_asked_61 (fun x14 o15 => ?_)
          refine lv_goto (tgt := 92) hx hb dX11_asked_62 (by decide) ?_
          exact x_ri hx hb hr hlk hQ (Nat.le_of_ble_eq_true rfl) (Nat.le_of_ble_eq_true rfl) hS dX11_asked_92 (0) ⟨_, rfl⟩ hT.nil
      · refine lv_aload_n hx hb dX11_asked_45 rfl (lv_at hl 0 rfl) ?_
        refine gX11_43 S hK hT ha kf_X11_340 dX11_asked_46 (v := z12) rfl ?_
        refine lv_goto (tgt := 92) hx hb dX11_asked_49 (by decide) ?_
        exact x_ri hx hb hr hlk hQ (Nat.le_of_ble_eq_true rfl) (Nat.le_of_ble_eq_true rfl) hS dX11_asked_92 (0) ⟨_, rfl⟩ hT.nil
    refine xi_ceq (tgt := 40) hx hb (rfl : Int32.toInt p0 = p0.toInt) ((by decide) : Int32.toInt (-1) = (-1 : Int)) dX11_asked_19 (by decide) (fun c16 => ?_) (fun c16 => ?_)
    · exact J40 _ _ _ (z_X11_asked_3 p0.toInt z12.toInt e0 c16 (xr p0) (xr z12)) hT.nil hS (lv_sub hl [0, 1, 2] rfl)
    · refine lv_iload_n hx hb dX11_asked_22 rfl (lv_at hl 1 rfl) ?_
      refine lv_i2l (v := p0.toInt64) hx hb dX11_asked_23 rfl ?_
      refine lv_lconst (v := (0 : Int64)) hx hb dX11_asked_24 (by decide) ?_
      refine lv_aload_n hx hb dX11_asked_25 rfl (lv_at hl 0 rfl) ?_
      refine gX11_43 S hK hT ha kf_X11_340 dX11_asked_26 (v := z12) rfl ?_
      refine lv_i2l (v := z12.toInt64) hx hb dX11_asked_29 rfl ?_
      refine lv_lconst (v := (1 : Int64)) hx hb dX11_asked_30 (by decide) ?_
      refine lv_lsub hx hb dX11_asked_31 (lv_topl (fun y17 hy18 => ?_))
      have hy18 : y17.toInt = z12.toInt - (1 : Int) := xl_sub (xl_i2l (rfl : Int32.toInt z12 = z12.toInt)) (by decide) (z_X11_asked_4 z12.toInt e0 (xr z12)) (by decide) hy18
      refine x_clp (x_runS (As := [.long p0.toInt64, .long (0 : Int64), .long y17]) (rest := []) S (c_X11_in l E K F tl 0 z1 z2 z3 z4 z5 z6 z7 z8 z9 z10 z11 z12 z13 z14 z15 z16 z17 z18 z19 z20 ar0 ar1 ar2 ar3 ar4 ar5 ar6 ar7 ar8 ar9 ar10 H p0.toInt64 (0 : Int64) y17 p0.toInt (0 : Int) (z12.toInt - (1 : Int)) (xl_i2l (rfl : Int32.toInt p0 = p0.toInt)) (by decide) hy18) ms_X11_in km_X11_139 rfl rfl ⟨Nat.le_of_ble_eq_true rfl, Nat.le_of_ble_eq_true rfl⟩ hK (fun _ => XPh.blind) (fun U hU hW => XPh.at hK hz hS hT hU hW) rfl hl.1 (Nat.le_of_ble_eq_true rfl) dX11_asked_32 ⟨Nat.le_of_ble_eq_true rfl, Nat.le_of_ble_eq_true rfl⟩) hS ?_
      rintro _ _ locs ⟨x19, rfl, b20, t21⟩ hS
      have t21 : (x19.toInt = 1 ∧ (0 : Int) ≤ p0.toInt ∧ p0.toInt ≤ (z12.toInt - (1 : Int))) ∨ (x19.toInt = 0 ∧ (p0.toInt < (0 : Int) ∨ (z12.toInt - (1 : Int)) < p0.toInt)) := t21
      refine xi_zne (tgt := 40) hx hb (rfl : Int32.toInt x19 = x19.toInt) dX11_asked_35 (by decide) (fun c22 => ?_) (fun c22 => ?_)
      · exact J40 _ _ _ (z_X11_asked_5 p0.toInt x19.toInt z12.toInt e0 c16 t21 c22 (xr p0) (xr x19) (xr z12)) hT.nil hS (lv_sub hl [0, 1, 2] rfl)
      · refine lv_iconst (v := (-1)) hx hb dX11_asked_38 (by decide) ?_
        exact x_ri hx hb hr hlk hQ (Nat.le_of_ble_eq_true rfl) (Nat.le_of_ble_eq_true rfl) hS dX11_asked_39 (0) ⟨_, rfl⟩ hT.nil

theorem z_X11_fresh_1 (a0 : Int) (a1 : Int) (a2 : Int) (a3 : Int) (h0 : 0 ≤ a3 ∧ a3 ≤ 8) (h1 : a2 = 0 ∨ (a2 = 1 ∧ 0 ≤ a0 ∧ a0 < a3)) (h2 : a2 = 0 ∨ a2 = 1) (h3 : ¬ (a2 = 0)) (h4 : a1 = (360 : Int) * a0 ∨ (360 : Int) * a0 < -2147483648 ∨ 2147483648 ≤ (360 : Int) * a0) (r0 : -2147483648 ≤ a0 ∧ a0 < 2147483648) (r1 : -2147483648 ≤ a1 ∧ a1 < 2147483648) (r2 : -2147483648 ≤ a2 ∧ a2 < 2147483648) (r3 : -2147483648 ≤ a3 ∧ a3 < 2147483648) : 0 ≤ a1 ∧ a1 ≤ 2520 := by first | (clear h0 h1 h2 h3; omega) | (clear h0 h2 h3; omega) | omega
theorem z_X11_fresh_2 (a0 : Int) (h0 : (0 : Int) ≤ a0) (r0 : -2147483648 ≤ a0 ∧ a0 < 2147483648) : ¬ (2147483648 - a0 < ((0 : Nat) : Int)) := by omega
theorem z_X11_fresh_3 (a0 : Int) (a1 : Int) (a2 : Int) (a3 : Nat) (a4 : Int) (h0 : (0 : Int) ≤ a0) (h1 : 2147483648 - a0 < ((a3 + 1 : Nat) : Int)) (h2 : ¬ ((12 : Int) ≤ a0)) (h3 : a1 = 0 ∨ (a1 = 1 ∧ 0 ≤ a0 ∧ a0 ≤ 11 ∧ 0 ≤ a4)) (h4 : a1 = 0 ∨ a1 = 1) (h5 : a2 = a0 + 1 ∨ a0 + 1 < -2147483648 ∨ 2147483648 ≤ a0 + 1) (r0 : -2147483648 ≤ a0 ∧ a0 < 2147483648) (r1 : -2147483648 ≤ a1 ∧ a1 < 2147483648) (r2 : -2147483648 ≤ a2 ∧ a2 < 2147483648) : (0 : Int) ≤ a2 := by first | (clear h0 h1 h2 h3 h4; omega) | (clear h4; omega) | omega
theorem z_X11_fresh_4 (a0 : Int) (a1 : Int) (a2 : Int) (a3 : Nat) (a4 : Int) (h0 : (0 : Int) ≤ a0) (h1 : 2147483648 - a0 < ((a3 + 1 : Nat) : Int)) (h2 : ¬ ((12 : Int) ≤ a0)) (h3 : a1 = 0 ∨ (a1 = 1 ∧ 0 ≤ a0 ∧ a0 ≤ 11 ∧ 0 ≤ a4)) (h4 : a1 = 0 ∨ a1 = 1) (h5 : a2 = a0 + 1 ∨ a0 + 1 < -2147483648 ∨ 2147483648 ≤ a0 + 1) (r0 : -2147483648 ≤ a0 ∧ a0 < 2147483648) (r1 : -2147483648 ≤ a1 ∧ a1 < 2147483648) (r2 : -2147483648 ≤ a2 ∧ a2 < 2147483648) : 2147483648 - a2 < ((a3 : Nat) : Int) := by first | (clear h0 h2 h3 h4; omega) | (clear h4; omega) | omega
theorem z_X11_fresh_5 (a0 : Int) (a1 : Int) (a2 : Nat) (a3 : Int) (h0 : (0 : Int) ≤ a0) (h1 : 2147483648 - a0 < ((a2 + 1 : Nat) : Int)) (h2 : ¬ ((12 : Int) ≤ a0)) (h3 : a1 = 0 ∨ (a1 = 1 ∧ 0 ≤ a0 ∧ a0 ≤ 11 ∧ 0 ≤ a3)) (h4 : a1 = 0 ∨ a1 = 1) (h5 : ¬ (a1 = 0)) (r0 : -2147483648 ≤ a0 ∧ a0 < 2147483648) (r1 : -2147483648 ≤ a1 ∧ a1 < 2147483648) : 0 ≤ a0 ∧ a0 ≤ 11 := by first | (clear h4 h5; omega) | omega
theorem z_X11_fresh_6 (a0 : Int) (a1 : Int) (a2 : Nat) (a3 : Int) (h0 : (0 : Int) ≤ a0) (h1 : 2147483648 - a0 < ((a2 + 1 : Nat) : Int)) (h2 : ¬ ((12 : Int) ≤ a0)) (h3 : a1 = 0 ∨ (a1 = 1 ∧ 0 ≤ a0 ∧ a0 ≤ 11 ∧ 0 ≤ a3)) (h4 : a1 = 0 ∨ a1 = 1) (h5 : ¬ (a1 = 0)) (r0 : -2147483648 ≤ a0 ∧ a0 < 2147483648) (r1 : -2147483648 ≤ a1 ∧ a1 < 2147483648) : 0 ≤ a0 ∧ a0 ≤ 11 := by first | (clear h4 h5; omega) | omega
theorem z_X11_fresh_7 (a0 : Int) (a1 : Int) (a2 : Nat) (a3 : Int) (a4 : Int) (a5 : Int) (a6 : Int) (h0 : (0 : Int) ≤ a0) (h1 : 2147483648 - a0 < ((a2 + 1 : Nat) : Int)) (h2 : ¬ ((12 : Int) ≤ a0)) (h3 : a1 = 0 ∨ (a1 = 1 ∧ 0 ≤ a0 ∧ a0 ≤ 11 ∧ 0 ≤ a3)) (h4 : a1 = 0 ∨ a1 = 1) (h5 : ¬ (a1 = 0)) (h6 : (-1 ≤ a3 ∧ a3 ≤ 5) ∧ (0 ≤ a4 ∧ a4 ≤ 2) ∧ (0 ≤ a5 ∧ a5 ≤ 2) ∧ (-1 ≤ a6 ∧ a6 ≤ 2) ∧ (a3 = 1 ∨ a3 = 3 ∨ a3 = 4 → 0 ≤ a6)) (r0 : -2147483648 ≤ a0 ∧ a0 < 2147483648) (r1 : -2147483648 ≤ a1 ∧ a1 < 2147483648) : 0 ≤ a0 ∧ a0 ≤ 11 := by first | (clear h4 h5 h6; omega) | omega
theorem z_X11_fresh_8 (a0 : Int) (a1 : Int) (a2 : Int) (a3 : Int) (h0 : a2 ≤ a1 ∧ a1 ≤ a3 + 1) (h1 : a0 = a2 ∧ -99 ≤ a2 ∧ a2 ≤ 0 ∧ 29 ≤ a3 ∧ a3 ≤ 99 ∧ a3 - a2 ≤ 198) (r0 : -2147483648 ≤ a0 ∧ a0 < 2147483648) (r1 : -2147483648 ≤ a1 ∧ a1 < 2147483648) : ¬ (2147483648 - a1 < ((0 : Nat) : Int)) := by omega
theorem z_X11_fresh_9 (a0 : Int) (a1 : Int) (a2 : Nat) (a3 : Int) (a4 : Int) (a5 : Int) (a6 : Int) (h0 : (0 : Int) ≤ a0) (h1 : 2147483648 - a0 < ((a2 + 1 : Nat) : Int)) (h2 : ¬ ((12 : Int) ≤ a0)) (h3 : a1 = 0 ∨ (a1 = 1 ∧ 0 ≤ a0 ∧ a0 ≤ 11 ∧ 0 ≤ a3)) (h4 : a1 = 0 ∨ a1 = 1) (h5 : ¬ (a1 = 0)) (h6 : (-1 ≤ a3 ∧ a3 ≤ 5) ∧ (0 ≤ a4 ∧ a4 ≤ 2) ∧ (0 ≤ a5 ∧ a5 ≤ 2) ∧ (-1 ≤ a6 ∧ a6 ≤ 2) ∧ (a3 = 1 ∨ a3 = 3 ∨ a3 = 4 → 0 ≤ a6)) (r0 : -2147483648 ≤ a0 ∧ a0 < 2147483648) (r1 : -2147483648 ≤ a1 ∧ a1 < 2147483648) : 0 ≤ a0 ∧ a0 ≤ 11 := by first | (clear h4 h5 h6; omega) | omega
theorem z_X11_fresh_10 (a0 : Int) (a1 : Int) (a2 : Int) (a3 : Int) (a4 : Int) (a5 : Int) (a6 : Nat) (a7 : Nat) (a8 : Int) (a9 : Int) (a10 : Int) (a11 : Int) (a12 : Int) (a13 : Int) (h0 : (0 : Int) ≤ a0) (h1 : 2147483648 - a0 < ((a6 + 1 : Nat) : Int)) (h2 : ¬ ((12 : Int) ≤ a0)) (h3 : a1 = 0 ∨ (a1 = 1 ∧ 0 ≤ a0 ∧ a0 ≤ 11 ∧ 0 ≤ a9)) (h4 : a1 = 0 ∨ a1 = 1) (h5 : ¬ (a1 = 0)) (h6 : (-1 ≤ a9 ∧ a9 ≤ 5) ∧ (0 ≤ a10 ∧ a10 ≤ 2) ∧ (0 ≤ a11 ∧ a11 ≤ 2) ∧ (-1 ≤ a12 ∧ a12 ≤ 2) ∧ (a9 = 1 ∨ a9 = 3 ∨ a9 = 4 → 0 ≤ a12)) (h7 : a2 = a8 ∧ -99 ≤ a8 ∧ a8 ≤ 0 ∧ 29 ≤ a13 ∧ a13 ≤ 99 ∧ a13 - a8 ≤ 198) (h8 : a8 ≤ a3 ∧ a3 ≤ a13 + 1) (h9 : 2147483648 - a3 < ((a7 + 1 : Nat) : Int)) (h10 : a4 = a13 ∧ -99 ≤ a8 ∧ a8 ≤ 0 ∧ 29 ≤ a13 ∧ a13 ≤ 99 ∧ a13 - a8 ≤ 198) (h11 : ¬ (a4 < a3)) (h12 : 0 ≤ a0 ∧ a0 ≤ 11 ∧ -99 ≤ a3 ∧ a3 ≤ 99 → a5 = 199 * a0 + a3 + 99) (r0 : -2147483648 ≤ a0 ∧ a0 < 2147483648) (r1 : -2147483648 ≤ a1 ∧ a1 < 2147483648) (r2 : -2147483648 ≤ a2 ∧ a2 < 2147483648) (r3 : -2147483648 ≤ a3 ∧ a3 < 2147483648) (r4 : -2147483648 ≤ a4 ∧ a4 < 2147483648) (r5 : -2147483648 ≤ a5 ∧ a5 < 2147483648) : 0 ≤ a5 ∧ a5 < ((2388 : Nat) : Int) := by first | (clear h0 h1 h2 h3 h4 h5 h6 h7 h8 h9 h10 h11; omega) | (clear h4 h5 h6 h7 h10; omega) | omega
theorem z_X11_fresh_11 (a0 : Int) (a1 : Int) (a2 : Int) (a3 : Int) (a4 : Int) (a5 : Int) (a6 : Nat) (a7 : Nat) (a8 : Int) (a9 : Int) (a10 : Int) (a11 : Int) (a12 : Int) (a13 : Int) (h0 : (0 : Int) ≤ a0) (h1 : 2147483648 - a0 < ((a6 + 1 : Nat) : Int)) (h2 : ¬ ((12 : Int) ≤ a0)) (h3 : a1 = 0 ∨ (a1 = 1 ∧ 0 ≤ a0 ∧ a0 ≤ 11 ∧ 0 ≤ a9)) (h4 : a1 = 0 ∨ a1 = 1) (h5 : ¬ (a1 = 0)) (h6 : (-1 ≤ a9 ∧ a9 ≤ 5) ∧ (0 ≤ a10 ∧ a10 ≤ 2) ∧ (0 ≤ a11 ∧ a11 ≤ 2) ∧ (-1 ≤ a12 ∧ a12 ≤ 2) ∧ (a9 = 1 ∨ a9 = 3 ∨ a9 = 4 → 0 ≤ a12)) (h7 : a2 = a8 ∧ -99 ≤ a8 ∧ a8 ≤ 0 ∧ 29 ≤ a13 ∧ a13 ≤ 99 ∧ a13 - a8 ≤ 198) (h8 : a8 ≤ a3 ∧ a3 ≤ a13 + 1) (h9 : 2147483648 - a3 < ((a7 + 1 : Nat) : Int)) (h10 : a4 = a13 ∧ -99 ≤ a8 ∧ a8 ≤ 0 ∧ 29 ≤ a13 ∧ a13 ≤ 99 ∧ a13 - a8 ≤ 198) (h11 : ¬ (a4 < a3)) (h12 : 0 ≤ a0 ∧ a0 ≤ 11 ∧ -99 ≤ a3 ∧ a3 ≤ 99 → a5 = 199 * a0 + a3 + 99) (r0 : -2147483648 ≤ a0 ∧ a0 < 2147483648) (r1 : -2147483648 ≤ a1 ∧ a1 < 2147483648) (r2 : -2147483648 ≤ a2 ∧ a2 < 2147483648) (r3 : -2147483648 ≤ a3 ∧ a3 < 2147483648) (r4 : -2147483648 ≤ a4 ∧ a4 < 2147483648) (r5 : -2147483648 ≤ a5 ∧ a5 < 2147483648) : 0 ≤ a5 ∧ a5 < ((2388 : Nat) : Int) := by first | (clear h0 h1 h2 h3 h4 h5 h6 h7 h8 h9 h10 h11; omega) | (clear h4 h5 h6 h7 h10; omega) | omega
theorem z_X11_fresh_12 (a0 : Int) (a1 : Int) (a2 : Int) (a3 : Int) (a4 : Int) (a5 : Int) (a6 : Int) (a7 : Nat) (a8 : Nat) (a9 : Int) (a10 : Int) (a11 : Int) (a12 : Int) (a13 : Int) (a14 : Int) (h0 : (0 : Int) ≤ a0) (h1 : 2147483648 - a0 < ((a7 + 1 : Nat) : Int)) (h2 : ¬ ((12 : Int) ≤ a0)) (h3 : a1 = 0 ∨ (a1 = 1 ∧ 0 ≤ a0 ∧ a0 ≤ 11 ∧ 0 ≤ a10)) (h4 : a1 = 0 ∨ a1 = 1) (h5 : ¬ (a1 = 0)) (h6 : (-1 ≤ a10 ∧ a10 ≤ 5) ∧ (0 ≤ a11 ∧ a11 ≤ 2) ∧ (0 ≤ a12 ∧ a12 ≤ 2) ∧ (-1 ≤ a13 ∧ a13 ≤ 2) ∧ (a10 = 1 ∨ a10 = 3 ∨ a10 = 4 → 0 ≤ a13)) (h7 : a2 = a9 ∧ -99 ≤ a9 ∧ a9 ≤ 0 ∧ 29 ≤ a14 ∧ a14 ≤ 99 ∧ a14 - a9 ≤ 198) (h8 : a9 ≤ a3 ∧ a3 ≤ a14 + 1) (h9 : 2147483648 - a3 < ((a8 + 1 : Nat) : Int)) (h10 : a4 = a14 ∧ -99 ≤ a9 ∧ a9 ≤ 0 ∧ 29 ≤ a14 ∧ a14 ≤ 99 ∧ a14 - a9 ≤ 198) (h11 : ¬ (a4 < a3)) (h12 : 0 ≤ a0 ∧ a0 ≤ 11 ∧ -99 ≤ a3 ∧ a3 ≤ 99 → a5 = 199 * a0 + a3 + 99) (h13 : a6 = a3 + 1 ∨ a3 + 1 < -2147483648 ∨ 2147483648 ≤ a3 + 1) (r0 : -2147483648 ≤ a0 ∧ a0 < 2147483648) (r1 : -2147483648 ≤ a1 ∧ a1 < 2147483648) (r2 : -2147483648 ≤ a2 ∧ a2 < 2147483648) (r3 : -2147483648 ≤ a3 ∧ a3 < 2147483648) (r4 : -2147483648 ≤ a4 ∧ a4 < 2147483648) (r5 : -2147483648 ≤ a5 ∧ a5 < 2147483648) (r6 : -2147483648 ≤ a6 ∧ a6 < 2147483648) : a9 ≤ a6 ∧ a6 ≤ a14 + 1 := by first | (clear h0 h1 h2 h3 h4 h5 h6 h9 h11 h12; omega) | (clear h0 h1 h2 h3 h4 h5 h6; omega) | (clear h4 h5 h6; omega) | omega
theorem z_X11_fresh_13 (a0 : Int) (a1 : Int) (a2 : Int) (a3 : Int) (a4 : Int) (a5 : Int) (a6 : Int) (a7 : Nat) (a8 : Nat) (a9 : Int) (a10 : Int) (a11 : Int) (a12 : Int) (a13 : Int) (a14 : Int) (h0 : (0 : Int) ≤ a0) (h1 : 2147483648 - a0 < ((a7 + 1 : Nat) : Int)) (h2 : ¬ ((12 : Int) ≤ a0)) (h3 : a1 = 0 ∨ (a1 = 1 ∧ 0 ≤ a0 ∧ a0 ≤ 11 ∧ 0 ≤ a10)) (h4 : a1 = 0 ∨ a1 = 1) (h5 : ¬ (a1 = 0)) (h6 : (-1 ≤ a10 ∧ a10 ≤ 5) ∧ (0 ≤ a11 ∧ a11 ≤ 2) ∧ (0 ≤ a12 ∧ a12 ≤ 2) ∧ (-1 ≤ a13 ∧ a13 ≤ 2) ∧ (a10 = 1 ∨ a10 = 3 ∨ a10 = 4 → 0 ≤ a13)) (h7 : a2 = a9 ∧ -99 ≤ a9 ∧ a9 ≤ 0 ∧ 29 ≤ a14 ∧ a14 ≤ 99 ∧ a14 - a9 ≤ 198) (h8 : a9 ≤ a3 ∧ a3 ≤ a14 + 1) (h9 : 2147483648 - a3 < ((a8 + 1 : Nat) : Int)) (h10 : a4 = a14 ∧ -99 ≤ a9 ∧ a9 ≤ 0 ∧ 29 ≤ a14 ∧ a14 ≤ 99 ∧ a14 - a9 ≤ 198) (h11 : ¬ (a4 < a3)) (h12 : 0 ≤ a0 ∧ a0 ≤ 11 ∧ -99 ≤ a3 ∧ a3 ≤ 99 → a5 = 199 * a0 + a3 + 99) (h13 : a6 = a3 + 1 ∨ a3 + 1 < -2147483648 ∨ 2147483648 ≤ a3 + 1) (r0 : -2147483648 ≤ a0 ∧ a0 < 2147483648) (r1 : -2147483648 ≤ a1 ∧ a1 < 2147483648) (r2 : -2147483648 ≤ a2 ∧ a2 < 2147483648) (r3 : -2147483648 ≤ a3 ∧ a3 < 2147483648) (r4 : -2147483648 ≤ a4 ∧ a4 < 2147483648) (r5 : -2147483648 ≤ a5 ∧ a5 < 2147483648) (r6 : -2147483648 ≤ a6 ∧ a6 < 2147483648) : 2147483648 - a6 < ((a8 : Nat) : Int) := by first | (clear h0 h1 h2 h3 h4 h5 h6 h7 h8 h10 h11 h12; omega) | (clear h0 h1 h2 h3 h4 h5 h6 h7 h10; omega) | (clear h4 h5 h6; omega) | omega
theorem z_X11_fresh_14 (a0 : Int) (a1 : Int) (a2 : Int) (a3 : Int) (a4 : Int) (a5 : Int) (a6 : Nat) (a7 : Nat) (a8 : Int) (a9 : Int) (a10 : Int) (a11 : Int) (a12 : Int) (a13 : Int) (h0 : (0 : Int) ≤ a0) (h1 : 2147483648 - a0 < ((a6 + 1 : Nat) : Int)) (h2 : ¬ ((12 : Int) ≤ a0)) (h3 : a1 = 0 ∨ (a1 = 1 ∧ 0 ≤ a0 ∧ a0 ≤ 11 ∧ 0 ≤ a9)) (h4 : a1 = 0 ∨ a1 = 1) (h5 : ¬ (a1 = 0)) (h6 : (-1 ≤ a9 ∧ a9 ≤ 5) ∧ (0 ≤ a10 ∧ a10 ≤ 2) ∧ (0 ≤ a11 ∧ a11 ≤ 2) ∧ (-1 ≤ a12 ∧ a12 ≤ 2) ∧ (a9 = 1 ∨ a9 = 3 ∨ a9 = 4 → 0 ≤ a12)) (h7 : a2 = a8 ∧ -99 ≤ a8 ∧ a8 ≤ 0 ∧ 29 ≤ a13 ∧ a13 ≤ 99 ∧ a13 - a8 ≤ 198) (h8 : a8 ≤ a3 ∧ a3 ≤ a13 + 1) (h9 : 2147483648 - a3 < ((a7 + 1 : Nat) : Int)) (h10 : a4 = a13 ∧ -99 ≤ a8 ∧ a8 ≤ 0 ∧ 29 ≤ a13 ∧ a13 ≤ 99 ∧ a13 - a8 ≤ 198) (h11 : ¬ (a4 < a3)) (h12 : 0 ≤ a0 ∧ a0 ≤ 11 ∧ -99 ≤ a3 ∧ a3 ≤ 99 → a5 = 199 * a0 + a3 + 99) (r0 : -2147483648 ≤ a0 ∧ a0 < 2147483648) (r1 : -2147483648 ≤ a1 ∧ a1 < 2147483648) (r2 : -2147483648 ≤ a2 ∧ a2 < 2147483648) (r3 : -2147483648 ≤ a3 ∧ a3 < 2147483648) (r4 : -2147483648 ≤ a4 ∧ a4 < 2147483648) (r5 : -2147483648 ≤ a5 ∧ a5 < 2147483648) : 0 ≤ a5 ∧ a5 < ((2388 : Nat) : Int) := by first | (clear h0 h1 h2 h3 h4 h5 h6 h7 h8 h9 h10 h11; omega) | (clear h4 h5 h6 h7 h10; omega) | omega
theorem z_X11_fresh_15 (a0 : Int) (a1 : Int) (a2 : Int) (a3 : Int) (a4 : Int) (a5 : Int) (a6 : Nat) (a7 : Nat) (a8 : Int) (a9 : Int) (a10 : Int) (a11 : Int) (a12 : Int) (a13 : Int) (h0 : (0 : Int) ≤ a0) (h1 : 2147483648 - a0 < ((a6 + 1 : Nat) : Int)) (h2 : ¬ ((12 : Int) ≤ a0)) (h3 : a1 = 0 ∨ (a1 = 1 ∧ 0 ≤ a0 ∧ a0 ≤ 11 ∧ 0 ≤ a9)) (h4 : a1 = 0 ∨ a1 = 1) (h5 : ¬ (a1 = 0)) (h6 : (-1 ≤ a9 ∧ a9 ≤ 5) ∧ (0 ≤ a10 ∧ a10 ≤ 2) ∧ (0 ≤ a11 ∧ a11 ≤ 2) ∧ (-1 ≤ a12 ∧ a12 ≤ 2) ∧ (a9 = 1 ∨ a9 = 3 ∨ a9 = 4 → 0 ≤ a12)) (h7 : a2 = a8 ∧ -99 ≤ a8 ∧ a8 ≤ 0 ∧ 29 ≤ a13 ∧ a13 ≤ 99 ∧ a13 - a8 ≤ 198) (h8 : a8 ≤ a3 ∧ a3 ≤ a13 + 1) (h9 : 2147483648 - a3 < ((a7 + 1 : Nat) : Int)) (h10 : a4 = a13 ∧ -99 ≤ a8 ∧ a8 ≤ 0 ∧ 29 ≤ a13 ∧ a13 ≤ 99 ∧ a13 - a8 ≤ 198) (h11 : ¬ (a4 < a3)) (h12 : 0 ≤ a0 ∧ a0 ≤ 11 ∧ -99 ≤ a3 ∧ a3 ≤ 99 → a5 = 199 * a0 + a3 + 99) (r0 : -2147483648 ≤ a0 ∧ a0 < 2147483648) (r1 : -2147483648 ≤ a1 ∧ a1 < 2147483648) (r2 : -2147483648 ≤ a2 ∧ a2 < 2147483648) (r3 : -2147483648 ≤ a3 ∧ a3 < 2147483648) (r4 : -2147483648 ≤ a4 ∧ a4 < 2147483648) (r5 : -2147483648 ≤ a5 ∧ a5 < 2147483648) : 0 ≤ a5 ∧ a5 < ((2388 : Nat) : Int) := by first | (clear h0 h1 h2 h3 h4 h5 h6 h7 h8 h9 h10 h11; omega) | (clear h4 h5 h6 h7 h10; omega) | omega
theorem z_X11_fresh_16 (a0 : Int) (a1 : Int) (a2 : Int) (a3 : Int) (a4 : Int) (a5 : Int) (a6 : Nat) (a7 : Nat) (a8 : Int) (a9 : Int) (a10 : Int) (a11 : Int) (a12 : Int) (a13 : Int) (h0 : (0 : Int) ≤ a0) (h1 : 2147483648 - a0 < ((a6 + 1 : Nat) : Int)) (h2 : ¬ ((12 : Int) ≤ a0)) (h3 : a1 = 0 ∨ (a1 = 1 ∧ 0 ≤ a0 ∧ a0 ≤ 11 ∧ 0 ≤ a9)) (h4 : a1 = 0 ∨ a1 = 1) (h5 : ¬ (a1 = 0)) (h6 : (-1 ≤ a9 ∧ a9 ≤ 5) ∧ (0 ≤ a10 ∧ a10 ≤ 2) ∧ (0 ≤ a11 ∧ a11 ≤ 2) ∧ (-1 ≤ a12 ∧ a12 ≤ 2) ∧ (a9 = 1 ∨ a9 = 3 ∨ a9 = 4 → 0 ≤ a12)) (h7 : a2 = a8 ∧ -99 ≤ a8 ∧ a8 ≤ 0 ∧ 29 ≤ a13 ∧ a13 ≤ 99 ∧ a13 - a8 ≤ 198) (h8 : a8 ≤ a3 ∧ a3 ≤ a13 + 1) (h9 : 2147483648 - a3 < ((a7 + 1 : Nat) : Int)) (h10 : a4 = a13 ∧ -99 ≤ a8 ∧ a8 ≤ 0 ∧ 29 ≤ a13 ∧ a13 ≤ 99 ∧ a13 - a8 ≤ 198) (h11 : ¬ (a4 < a3)) (h12 : 0 ≤ a0 ∧ a0 ≤ 11 ∧ -99 ≤ a3 ∧ a3 ≤ 99 → a5 = 199 * a0 + a3 + 99) (r0 : -2147483648 ≤ a0 ∧ a0 < 2147483648) (r1 : -2147483648 ≤ a1 ∧ a1 < 2147483648) (r2 : -2147483648 ≤ a2 ∧ a2 < 2147483648) (r3 : -2147483648 ≤ a3 ∧ a3 < 2147483648) (r4 : -2147483648 ≤ a4 ∧ a4 < 2147483648) (r5 : -2147483648 ≤ a5 ∧ a5 < 2147483648) : 0 ≤ a5 ∧ a5 < ((2388 : Nat) : Int) := by first | (clear h0 h1 h2 h3 h4 h5 h6 h7 h8 h9 h10 h11; omega) | (clear h4 h5 h6 h7 h10; omega) | omega
theorem z_X11_fresh_17 (a0 : Int) (a1 : Int) (a2 : Int) (a3 : Int) (a4 : Int) (a5 : Int) (a6 : Nat) (a7 : Nat) (a8 : Int) (a9 : Int) (a10 : Int) (a11 : Int) (a12 : Int) (a13 : Int) (h0 : (0 : Int) ≤ a0) (h1 : 2147483648 - a0 < ((a6 + 1 : Nat) : Int)) (h2 : ¬ ((12 : Int) ≤ a0)) (h3 : a1 = 0 ∨ (a1 = 1 ∧ 0 ≤ a0 ∧ a0 ≤ 11 ∧ 0 ≤ a9)) (h4 : a1 = 0 ∨ a1 = 1) (h5 : ¬ (a1 = 0)) (h6 : (-1 ≤ a9 ∧ a9 ≤ 5) ∧ (0 ≤ a10 ∧ a10 ≤ 2) ∧ (0 ≤ a11 ∧ a11 ≤ 2) ∧ (-1 ≤ a12 ∧ a12 ≤ 2) ∧ (a9 = 1 ∨ a9 = 3 ∨ a9 = 4 → 0 ≤ a12)) (h7 : a2 = a8 ∧ -99 ≤ a8 ∧ a8 ≤ 0 ∧ 29 ≤ a13 ∧ a13 ≤ 99 ∧ a13 - a8 ≤ 198) (h8 : a8 ≤ a3 ∧ a3 ≤ a13 + 1) (h9 : 2147483648 - a3 < ((a7 + 1 : Nat) : Int)) (h10 : a4 = a13 ∧ -99 ≤ a8 ∧ a8 ≤ 0 ∧ 29 ≤ a13 ∧ a13 ≤ 99 ∧ a13 - a8 ≤ 198) (h11 : ¬ (a4 < a3)) (h12 : 0 ≤ a0 ∧ a0 ≤ 11 ∧ -99 ≤ a3 ∧ a3 ≤ 99 → a5 = 199 * a0 + a3 + 99) (r0 : -2147483648 ≤ a0 ∧ a0 < 2147483648) (r1 : -2147483648 ≤ a1 ∧ a1 < 2147483648) (r2 : -2147483648 ≤ a2 ∧ a2 < 2147483648) (r3 : -2147483648 ≤ a3 ∧ a3 < 2147483648) (r4 : -2147483648 ≤ a4 ∧ a4 < 2147483648) (r5 : -2147483648 ≤ a5 ∧ a5 < 2147483648) : 0 ≤ a5 ∧ a5 < ((2388 : Nat) : Int) := by first | (clear h0 h1 h2 h3 h4 h5 h6 h7 h8 h9 h10 h11; omega) | (clear h4 h5 h6 h7 h10; omega) | omega
theorem z_X11_fresh_18 (a0 : Int) (a1 : Int) (a2 : Int) (h0 : a0 = a1 ∧ -99 ≤ a1 ∧ a1 ≤ 0 ∧ 29 ≤ a2 ∧ a2 ≤ 99 ∧ a2 - a1 ≤ 198) (r0 : -2147483648 ≤ a0 ∧ a0 < 2147483648) : a1 ≤ a0 ∧ a0 ≤ a2 + 1 := by omega
theorem z_X11_fresh_19 (a0 : Int) (a1 : Int) (a2 : Int) (h0 : a0 = a1 ∧ -99 ≤ a1 ∧ a1 ≤ 0 ∧ 29 ≤ a2 ∧ a2 ≤ 99 ∧ a2 - a1 ≤ 198) (r0 : -2147483648 ≤ a0 ∧ a0 < 2147483648) : 2147483648 - a0 < ((4294967297 : Nat) : Int) := by omega
abbrev rm_X11_fresh : Room := { frames := 5, cells := 0, slots := 0, locals := 122 }
set_option maxHeartbeats 4000000 in
set_option maxRecDepth 100000 in
theorem c_X11_fresh (l : Launch) (E : XE) (K : Nat → Nat) (F : Nat → Nat → Nat) (tl z0 z1 z2 z3 z4 z5 z6 z7 z8 z9 z10 z11 z12 z13 z14 z15 z16 z17 z18 z19 z20 : Int32) (ar0 ar1 ar2 ar3 ar4 ar5 ar6 ar7 ar8 ar9 ar10 : Nat → Int32) (a : Nat) (p0 : Int32) (p1 : Int32) (ha : K a = 13) (hR : RV ar1) (e0 : 0 ≤ z2.toInt ∧ z2.toInt ≤ 8) : Met l yX11_fresh (xw yX11_fresh cX11_fresh 8 (some .int)) rm_X11_fresh (va_Pc [.ref a, .int p0, .int p1] (XP E K F (tl, [z0, z1, z2, z3, z4, z5, z6, z7, z8, z9, z10, z11, z12, z13, z14, z15, z16, z17, z18, z19, z20], [ar0, ar1, ar2, ar3, ar4, ar5, ar6, ar7, ar8, ar9, ar10]))) (XQ E (fun v (u : Int32 × Int32 × Int32 × (Nat → Int32) × (Nat → Int32) × (Nat → Int32)) => ∃ r : Int32, v = .int r) (fun u H => TW E K F (tl, [u.1, z1, z2, u.2.1, u.2.2.1, z5, z6, z7, z8, z9, z10, z11, z12, z13, z14, z15, z16, z17, z18, z19, z20], [ar0, ar1, u.2.2.2.1, u.2.2.2.2.1, u.2.2.2.2.2, ar5, ar6, ar7, ar8, ar9, ar10]) [] H)) 0 0 (xA E) := by
  refine x_enter (by decide) (Nat.le_of_ble_eq_true rfl) ?_
  intro p e s m args below meth c Q S hr hlk hnm hQ hP ls hl
  obtain ⟨hz, hK, hT⟩ := hP
  obtain ⟨hx, hb, -, -, -⟩ := id S
  obtain ⟨H, hT, hS, hgo⟩ : ∃ H : Heap, TW E K F (tl, [z0, z1, z2, z3, z4, z5, z6, z7, z8, z9, z10, z11, z12, z13, z14, z15, z16, z17, z18, z19, z20], [ar0, ar1, ar2, ar3, ar4, ar5, ar6, ar7, ar8, ar9, ar10]) [] H ∧ va_S (xA E) s.heap H [] ∧ H = s.heap := ⟨_, hT, va_S.rf, rfl⟩
  rw [← hgo]
  have hl : lv_has ls 8 [(0, .ref a), (1, .int p0), (2, .int p1)] := hl
  refine lv_aload_n hx hb dX11_fresh_0 rfl (lv_at hl 0 rfl) ?_
  refine lv_iconst (v := 0) hx hb dX11_fresh_1 (by decide) ?_
  refine pX11_0 (kq := []) (v := 0) S hK hT hS ha kf_X11_134 (Nat.le_of_ble_eq_true rfl) dX11_fresh_2 (fun _ h => by cases h) (fun H locs hT hS => ?_)
  have hT : TW E K F (tl, [0, z1, z2, z3, z4, z5, z6, z7, z8, z9, z10, z11, z12, z13, z14, z15, z16, z17, z18, z19, z20], [ar0, ar1, ar2, ar3, ar4, ar5, ar6, ar7, ar8, ar9, ar10]) [] H := hT
  refine lv_aload_n hx hb dX11_fresh_5 rfl (lv_at hl 0 rfl) ?_
  refine lv_iload_n hx hb dX11_fresh_6 rfl (lv_at hl 1 rfl) ?_
  refine x_clp (x_runV (b := a) (As := [.int p0]) (rest := []) S (c_X11_isMark l E K F tl 0 z1 z2 z3 z4 z5 z6 z7 z8 z9 z10 z11 z12 z13 z14 z15 z16 z17 z18 z19 z20 ar0 ar1 ar2 ar3 ar4 ar5 ar6 ar7 ar8 ar9 ar10 H a p0 ha) mv_X11_isMark km_X11_382 rfl rfl ⟨Nat.le_of_ble_eq_true rfl, Nat.le_of_ble_eq_true rfl⟩ (rc_13 hK hT ha) hK (fun _ => XPh.blind) (fun U hU hW => XPh.at hK hz hS hT hU hW) rfl hl.1 (Nat.le_of_ble_eq_true rfl) dX11_fresh_7 ⟨Nat.le_of_ble_eq_true rfl, Nat.le_of_ble_eq_true rfl⟩) hS ?_
  rintro _ _ locs ⟨x2, rfl, b3, t1⟩ hS
  have t1 : x2.toInt = 0 ∨ (x2.toInt = 1 ∧ 0 ≤ p0.toInt ∧ p0.toInt < z2.toInt) := t1
  refine xi_zeq (tgt := 23) hx hb (rfl : Int32.toInt x2 = x2.toInt) dX11_fresh_10 (by decide) (fun c4 => ?_) (fun c4 => ?_)
  · refine lv_iconst (v := (-1)) hx hb dX11_fresh_23 (by decide) ?_
    exact x_ri hx hb hr hlk hQ (Nat.le_of_ble_eq_true rfl) (Nat.le_of_ble_eq_true rfl) hS dX11_fresh_24 (0, z3, z4, ar2, ar3, ar4) ⟨_, rfl⟩ hT.nil
  · refine lv_iload_n hx hb dX11_fresh_13 rfl (lv_at hl 2 rfl) ?_
    refine lv_i2l (v := p1.toInt64) hx hb dX11_fresh_14 rfl ?_
    refine lv_lconst (v := (0 : Int64)) hx hb dX11_fresh_15 (by decide) ?_
    refine lv_lconst (v := (1 : Int64)) hx hb dX11_fresh_16 (by decide) ?_
    refine x_clp (x_runS (As := [.long p1.toInt64, .long (0 : Int64), .long (1 : Int64)]) (rest := []) S (c_X11_in l E K F tl 0 z1 z2 z3 z4 z5 z6 z7 z8 z9 z10 z11 z12 z13 z14 z15 z16 z17 z18 z19 z20 ar0 ar1 ar2 ar3 ar4 ar5 ar6 ar7 ar8 ar9 ar10 H p1.toInt64 (0 : Int64) (1 : Int64) p1.toInt (0 : Int) (1 : Int) (xl_i2l (rfl : Int32.toInt p1 = p1.toInt)) (by decide) (by decide)) ms_X11_in km_X11_139 rfl rfl ⟨Nat.le_of_ble_eq_true rfl, Nat.le_of_ble_eq_true rfl⟩ hK (fun _ => XPh.blind) (fun U hU hW => XPh.at hK hz hS hT hU hW) rfl hl.1 (Nat.le_of_ble_eq_true rfl) dX11_fresh_17 ⟨Nat.le_of_ble_eq_true rfl, Nat.le_of_ble_eq_true rfl⟩) hS ?_
    rintro _ _ locs ⟨x5, rfl, b6, t7⟩ hS
    have t7 : (x5.toInt = 1 ∧ (0 : Int) ≤ p1.toInt ∧ p1.toInt ≤ (1 : Int)) ∨ (x5.toInt = 0 ∧ (p1.toInt < (0 : Int) ∨ (1 : Int) < p1.toInt)) := t7
    refine xi_zne (tgt := 25) hx hb (rfl : Int32.toInt x5 = x5.toInt) dX11_fresh_20 (by decide) (fun c8 => ?_) (fun c8 => ?_)
    · refine lv_aload_n hx hb dX11_fresh_25 rfl (lv_at hl 0 rfl) ?_
      refine x_cv0 (x_runV (b := a) (As := []) (rest := []) S (c_X11_findQueue l E K F tl 0 z1 z2 z3 z4 z5 z6 z7 z8 z9 z10 z11 z12 z13 z14 z15 z16 z17 z18 z19 z20 ar0 ar1 ar2 ar3 ar4 ar5 ar6 ar7 ar8 ar9 ar10 a ha hR) mv_X11_findQueue km_X11_218 rfl rfl ⟨Nat.le_of_ble_eq_true rfl, Nat.le_of_ble_eq_true rfl⟩ (rc_13 hK hT ha) hK (fun _ => XP.blind) (fun U hU hW => XP.at hK hz hS hT hU hW) rfl hl.1 (Nat.le_of_ble_eq_true rfl) dX11_fresh_26 ⟨Nat.le_of_ble_eq_true rfl, Nat.le_of_ble_eq_true rfl⟩) hS ?_
      rintro ⟨u9, u10, f11, f12, f13⟩ H locs t14 hT hS
      have hT : TW E K F (tl, [0, z1, z2, u9, u10, z5, z6, z7, z8, z9, z10, z11, z12, z13, z14, z15, z16, z17, z18, z19, z20], [ar0, ar1, f11, f12, f13, ar5, ar6, ar7, ar8, ar9, ar10]) [] H := hT
      have t14 : 0 ≤ u10.toInt ∧ u10.toInt ≤ 2388 ∧ u10.toInt ≤ (((fV ar1 f12 f13) : Nat) : Int) := t14
      refine lv_aload_n hx hb dX11_fresh_29 rfl (lv_at hl 0 rfl) ?_
      refine lv_aload_n hx hb dX11_fresh_30 rfl (lv_at hl 0 rfl) ?_
      refine gX11_14 S hK hT ha kf_X11_45 dX11_fresh_31 (fun hk17 => ?_)
      refine lv_aload_n hx hb dX11_fresh_34 rfl (lv_at hl 0 rfl) ?_
      refine gX11_3 S hK hT ha kf_X11_18 dX11_fresh_35 (fun hk18 => ?_)
      refine lv_sipush (v := 360) hx hb dX11_fresh_38 (by decide) ?_
      refine lv_iload_n hx hb dX11_fresh_41 rfl (lv_at hl 1 rfl) ?_
      refine xi_imul hx hb ((by decide) : Int32.toInt 360 = (360 : Int)) (rfl : Int32.toInt p0 = p0.toInt) dX11_fresh_42 (fun x19 t20 => ?_)
      refine x_cv0 (x_runV (b := a) (As := [.ref (F a 14), .ref (F a 3), .int x19]) (rest := []) S (c_X11_layStates l E K F tl 0 z1 z2 u9 u10 z5 z6 z7 z8 z9 z10 z11 z12 z13 z14 z15 z16 z17 z18 z19 z20 ar0 ar1 f11 f12 f13 ar5 ar6 ar7 ar8 ar9 ar10 a (F a 14) (F a 3) x19 ha hk17 (XO.c hk18 (z_X11_fresh_1 p0.toInt x19.toInt x2.toInt z2.toInt e0 t1 (xbz b3) c4 t20 (xr p0) (xr x19) (xr x2) (xr z2))) hR) mv_X11_layStates km_X11_210 rfl rfl ⟨Nat.le_of_ble_eq_true rfl, Nat.le_of_ble_eq_true rfl⟩ (rc_13 hK hT ha) hK (fun _ => XP.blind) (fun U hU hW => XP.at hK hz hS hT hU hW) rfl hl.1 (Nat.le_of_ble_eq_true rfl) dX11_fresh_43 ⟨Nat.le_of_ble_eq_true rfl, Nat.le_of_ble_eq_true rfl⟩) hS ?_
      rintro _ H locs - hT hS
      refine lv_iconst (v := 0) hx hb dX11_fresh_46 (by decide) ?_
      refine lv_istore_n (lv' := [(3, .int 0), (0, .ref a), (1, .int p0), (2, .int p1)]) hx hb dX11_fresh_47 rfl hl (by decide) rfl (fun ls hl => ?_)
      refine lv_iconst (v := 0) hx hb dX11_fresh_48 (by decide) ?_
      refine lv_istore (lv' := [(4, .int 0), (3, .int 0), (0, .ref a), (1, .int p0), (2, .int p1)]) hx hb dX11_fresh_49 hl (by decide) rfl (fun ls hl => ?_)
      have L51 : ∀ (N25 : Nat) (x23 : Int32) (x24 : Int32) (H : Heap) (locs : List Loc) (ls : Array Slot), (0 : Int) ≤ x24.toInt → 2147483648 - x24.toInt < ((N25 : Nat) : Int) → TW E K F (tl, [0, z1, z2, u9, u10, z5, z6, z7, z8, z9, z10, z11, z12, z13, z14, z15, z16, z17, z18, z19, z20], [ar0, ar1, f11, f12, f13, ar5, ar6, ar7, ar8, ar9, ar10]) [] H → va_S (xA E) s.heap H locs → lv_has ls 8 [(0, .ref a), (2, .int p1), (3, .int x23), (4, .int x24)] → W p l e rm_X11_fresh s m args below meth c H locs 0 0 Q (F0 m 51 ls []) := by
        intro N25
        induction N25 with
        | zero =>
          intro x23 x24 H locs ls hf26 hm27
          exact absurd hm27 (z_X11_fresh_2 x24.toInt hf26 (xr x24))
        | succ N25 ih28 =>
          intro x23 x24 H locs ls hf26 hm27 hT hS hl
          refine lv_iload hx hb dX11_fresh_51 (lv_at hl 3 rfl) ?_
          refine lv_bipush (v := 12) hx hb dX11_fresh_53 (by decide) ?_
          refine xi_cge (tgt := 207) hx hb (rfl : Int32.toInt x24 = x24.toInt) ((by decide) : Int32.toInt 12 = (12 : Int)) dX11_fresh_55 (by decide) (fun c29 => ?_) (fun c29 => ?_)
          · refine lv_iload_n hx hb dX11_fresh_207 rfl (lv_at hl 2 rfl) ?_
            exact x_ri hx hb hr hlk hQ (Nat.le_of_ble_eq_true rfl) (Nat.le_of_ble_eq_true rfl) hS dX11_fresh_208 (0, u9, u10, f11, f12, f13) ⟨_, rfl⟩ hT.nil
          · refine lv_aload_n hx hb dX11_fresh_58 rfl (lv_at hl 0 rfl) ?_
            refine lv_iload hx hb dX11_fresh_59 (lv_at hl 3 rfl) ?_
            refine x_clp (x_runV (b := a) (As := [.int x24]) (rest := []) S (c_X11_isRule l E K F tl 0 z1 z2 u9 u10 z5 z6 z7 z8 z9 z10 z11 z12 z13 z14 z15 z16 z17 z18 z19 z20 ar0 ar1 f11 f12 f13 ar5 ar6 ar7 ar8 ar9 ar10 H a x24 ha hR) mv_X11_isRule km_X11_162 rfl rfl ⟨Nat.le_of_ble_eq_true rfl, Nat.le_of_ble_eq_true rfl⟩ (rc_13 hK hT ha) hK (fun _ => XPh.blind) (fun U hU hW => XPh.at hK hz hS hT hU hW) rfl hl.1 (Nat.le_of_ble_eq_true rfl) dX11_fresh_61 ⟨Nat.le_of_ble_eq_true rfl, Nat.le_of_ble_eq_true rfl⟩) hS ?_
            rintro _ _ locs ⟨x31, rfl, b32, t30⟩ hS
            have t30 : x31.toInt = 0 ∨ (x31.toInt = 1 ∧ 0 ≤ x24.toInt ∧ x24.toInt ≤ 11 ∧ 0 ≤ (aI ar1 (10 * x24.toInt + (0 : Int)))) := t30
            have J201 : ∀ (x33 : Int32) (H : Heap) (locs : List Loc) (ls : Array Slot), TW E K F (tl, [0, z1, z2, u9, u10, z5, z6, z7, z8, z9, z10, z11, z12, z13, z14, z15, z16, z17, z18, z19, z20], [ar0, ar1, f11, f12, f13, ar5, ar6, ar7, ar8, ar9, ar10]) [] H → va_S (xA E) s.heap H locs → lv_has ls 8 [(0, .ref a), (2, .int p1), (3, .int x33), (4, .int x24)] → W p l e rm_X11_fresh s m args below meth c H locs 0 0 Q (F0 m 201 ls []) := by
              intro x33 H locs ls hT hS hl
              refine xi_iinc (n := 1) (lv' := fun z9 => [(4, .int z9), (0, .ref a), (2, .int p1), (3, .int x33)]) (k := 3) hx hb (rfl : Int32.toInt x24 = x24.toInt) (by decide) dX11_fresh_201 hl rfl (by decide) (fun _ => rfl) (fun x34 ls t35 hl => ?_)
              have hl : lv_has ls 8 [(4, .int x34), (0, .ref a), (2, .int p1), (3, .int x33)] := hl
              refine lv_goto (tgt := 51) hx hb dX11_fresh_204 (by decide) ?_
              exact ih28 x33 x34 _ _ _ (z_X11_fresh_3 x24.toInt x31.toInt x34.toInt N25 (aI ar1 (10 * x24.toInt + (0 : Int))) hf26 hm27 c29 t30 (xbz b32) t35 (xr x24) (xr x31) (xr x34)) (z_X11_fresh_4 x24.toInt x31.toInt x34.toInt N25 (aI ar1 (10 * x24.toInt + (0 : Int))) hf26 hm27 c29 t30 (xbz b32) t35 (xr x24) (xr x31) (xr x34)) hT.nil hS (lv_sub hl [1, 2, 3, 0] rfl)
            refine xi_zeq (tgt := 201) hx hb (rfl : Int32.toInt x31 = x31.toInt) dX11_fresh_64 (by decide) (fun c36 => ?_) (fun c36 => ?_)
            · exact J201 x23 _ _ _ hT.nil hS (lv_sub hl [0, 1, 2, 3] rfl)
            · refine lv_aload_n hx hb dX11_fresh_67 rfl (lv_at hl 0 rfl) ?_
              refine lv_iload hx hb dX11_fresh_68 (lv_at hl 3 rfl) ?_
              refine lv_bipush (v := 6) hx hb dX11_fresh_70 (by decide) ?_
              refine x_clp (x_runV (b := a) (As := [.int x24, .int 6]) (rest := []) S (c_X11_of l E K F tl 0 z1 z2 u9 u10 z5 z6 z7 z8 z9 z10 z11 z12 z13 z14 z15 z16 z17 z18 z19 z20 ar0 ar1 f11 f12 f13 ar5 ar6 ar7 ar8 ar9 ar10 H a x24 6 ha (z_X11_fresh_5 x24.toInt x31.toInt N25 (aI ar1 (10 * x24.toInt + (0 : Int))) hf26 hm27 c29 t30 (xbz b32) c36 (xr x24) (xr x31)) (by decide)) mv_X11_of km_X11_165 rfl rfl ⟨Nat.le_of_ble_eq_true rfl, Nat.le_of_ble_eq_true rfl⟩ (rc_13 hK hT ha) hK (fun _ => XPh.blind) (fun U hU hW => XPh.at hK hz hS hT hU hW) rfl hl.1 (Nat.le_of_ble_eq_true rfl) dX11_fresh_72 ⟨Nat.le_of_ble_eq_true rfl, Nat.le_of_ble_eq_true rfl⟩) hS ?_
              rintro _ _ locs ⟨x38, rfl, t37⟩ hS
              have t37 : x38.toInt = (aI ar1 (10 * x24.toInt + (6 : Int))) := t37
              have v40 : (-1 ≤ (aI ar1 (10 * x24.toInt + (0 : Int))) ∧ (aI ar1 (10 * x24.toInt + (0 : Int))) ≤ 5) ∧ (0 ≤ (aI ar1 (10 * x24.toInt + (1 : Int))) ∧ (aI ar1 (10 * x24.toInt + (1 : Int))) ≤ 2) ∧ (0 ≤ (aI ar1 (10 * x24.toInt + (2 : Int))) ∧ (aI ar1 (10 * x24.toInt + (2 : Int))) ≤ 2) ∧ (-1 ≤ (aI ar1 (10 * x24.toInt + (3 : Int))) ∧ (aI ar1 (10 * x24.toInt + (3 : Int))) ≤ 2) ∧ ((aI ar1 (10 * x24.toInt + (0 : Int))) = 1 ∨ (aI ar1 (10 * x24.toInt + (0 : Int))) = 3 ∨ (aI ar1 (10 * x24.toInt + (0 : Int))) = 4 → 0 ≤ (aI ar1 (10 * x24.toInt + (3 : Int)))) := RV.row hR (z_X11_fresh_6 x24.toInt x31.toInt N25 (aI ar1 (10 * x24.toInt + (0 : Int))) hf26 hm27 c29 t30 (xbz b32) c36 (xr x24) (xr x31))
              refine lv_iconst (v := 1) hx hb dX11_fresh_75 (by decide) ?_
              refine xi_cne (tgt := 201) hx hb (rfl : Int32.toInt x38 = x38.toInt) ((by decide) : Int32.toInt 1 = (1 : Int)) dX11_fresh_76 (by decide) (fun c41 => ?_) (fun c41 => ?_)
              · exact J201 x23 _ _ _ hT.nil hS (lv_sub hl [0, 1, 2, 3] rfl)
              · refine lv_aload_n hx hb dX11_fresh_79 rfl (lv_at hl 0 rfl) ?_
                refine lv_iload hx hb dX11_fresh_80 (lv_at hl 3 rfl) ?_
                refine x_clp (x_runV (b := a) (As := [.int x24]) (rest := []) S (c_X11_firstSubject l E K F tl 0 z1 z2 u9 u10 z5 z6 z7 z8 z9 z10 z11 z12 z13 z14 z15 z16 z17 z18 z19 z20 ar0 ar1 f11 f12 f13 ar5 ar6 ar7 ar8 ar9 ar10 H a x24 ha hR (z_X11_fresh_7 x24.toInt x31.toInt N25 (aI ar1 (10 * x24.toInt + (0 : Int))) (aI ar1 (10 * x24.toInt + (1 : Int))) (aI ar1 (10 * x24.toInt + (2 : Int))) (aI ar1 (10 * x24.toInt + (3 : Int))) hf26 hm27 c29 t30 (xbz b32) c36 v40 (xr x24) (xr x31))) mv_X11_firstSubject km_X11_179 rfl rfl ⟨Nat.le_of_ble_eq_true rfl, Nat.le_of_ble_eq_true rfl⟩ (rc_13 hK hT ha) hK (fun _ => XPh.blind) (fun U hU hW => XPh.at hK hz hS hT hU hW) rfl hl.1 (Nat.le_of_ble_eq_true rfl) dX11_fresh_82 ⟨Nat.le_of_ble_eq_true rfl, Nat.le_of_ble_eq_true rfl⟩) hS ?_
                rintro _ _ locs ⟨x43, rfl, t42⟩ hS
                have t42 : x43.toInt = (aF ar1 x24.toInt) ∧ -99 ≤ (aF ar1 x24.toInt) ∧ (aF ar1 x24.toInt) ≤ 0 ∧ 29 ≤ (aL ar1 x24.toInt) ∧ (aL ar1 x24.toInt) ≤ 99 ∧ (aL ar1 x24.toInt) - (aF ar1 x24.toInt) ≤ 198 := t42
                refine lv_istore (lv' := [(5, .int x43), (0, .ref a), (2, .int p1), (3, .int x23), (4, .int x24)]) hx hb dX11_fresh_85 hl (by decide) rfl (fun ls hl => ?_)
                have L87 : ∀ (N47 : Nat) (x45 : Int32) (x46 : Int32) (H : Heap) (locs : List Loc) (ls : Array Slot), (aF ar1 x24.toInt) ≤ x46.toInt ∧ x46.toInt ≤ (aL ar1 x24.toInt) + 1 → 2147483648 - x46.toInt < ((N47 : Nat) : Int) → TW E K F (tl, [0, z1, z2, u9, u10, z5, z6, z7, z8, z9, z10, z11, z12, z13, z14, z15, z16, z17, z18, z19, z20], [ar0, ar1, f11, f12, f13, ar5, ar6, ar7, ar8, ar9, ar10]) [] H → va_S (xA E) s.heap H locs → lv_has ls 8 [(0, .ref a), (2, .int p1), (3, .int x45), (4, .int x24), (5, .int x46)] → W p l e rm_X11_fresh s m args below meth c H locs 0 0 Q (F0 m 87 ls []) := by
                  intro N47
                  induction N47 with
                  | zero =>
                    intro x45 x46 H locs ls hf48 hm49
                    exact absurd hm49 (z_X11_fresh_8 x43.toInt x46.toInt (aF ar1 x24.toInt) (aL ar1 x24.toInt) hf48 t42 (xr x43) (xr x46))
                  | succ N47 ih50 =>
                    intro x45 x46 H locs ls hf48 hm49 hT hS hl
                    refine lv_iload hx hb dX11_fresh_87 (lv_at hl 4 rfl) ?_
                    refine lv_aload_n hx hb dX11_fresh_89 rfl (lv_at hl 0 rfl) ?_
                    refine lv_iload hx hb dX11_fresh_90 (lv_at hl 3 rfl) ?_
                    refine x_clp (x_runV (b := a) (As := [.int x24]) (rest := [.int x46]) S (c_X11_lastSubject l E K F tl 0 z1 z2 u9 u10 z5 z6 z7 z8 z9 z10 z11 z12 z13 z14 z15 z16 z17 z18 z19 z20 ar0 ar1 f11 f12 f13 ar5 ar6 ar7 ar8 ar9 ar10 H a x24 ha hR (z_X11_fresh_9 x24.toInt x31.toInt N25 (aI ar1 (10 * x24.toInt + (0 : Int))) (aI ar1 (10 * x24.toInt + (1 : Int))) (aI ar1 (10 * x24.toInt + (2 : Int))) (aI ar1 (10 * x24.toInt + (3 : Int))) hf26 hm27 c29 t30 (xbz b32) c36 v40 (xr x24) (xr x31))) mv_X11_lastSubject km_X11_183 rfl rfl ⟨Nat.le_of_ble_eq_true rfl, Nat.le_of_ble_eq_true rfl⟩ (rc_13 hK hT ha) hK (fun _ => XPh.blind) (fun U hU hW => XPh.at hK hz hS hT hU hW) rfl hl.1 (Nat.le_of_ble_eq_true rfl) dX11_fresh_92 ⟨Nat.le_of_ble_eq_true rfl, Nat.le_of_ble_eq_true rfl⟩) hS ?_
                    rintro _ _ locs ⟨x52, rfl, t51⟩ hS
                    have t51 : x52.toInt = (aL ar1 x24.toInt) ∧ -99 ≤ (aF ar1 x24.toInt) ∧ (aF ar1 x24.toInt) ≤ 0 ∧ 29 ≤ (aL ar1 x24.toInt) ∧ (aL ar1 x24.toInt) ≤ 99 ∧ (aL ar1 x24.toInt) - (aF ar1 x24.toInt) ≤ 198 := t51
                    refine xi_cgt (tgt := 201) hx hb (rfl : Int32.toInt x46 = x46.toInt) (rfl : Int32.toInt x52 = x52.toInt) dX11_fresh_95 (by decide) (fun c54 => ?_) (fun c54 => ?_)
                    · exact J201 x45 _ _ _ hT.nil hS (lv_sub hl [0, 1, 2, 3] rfl)
                    · refine lv_iload hx hb dX11_fresh_98 (lv_at hl 3 rfl) ?_
                      refine lv_iload hx hb dX11_fresh_100 (lv_at hl 4 rfl) ?_
                      refine x_clp (x_runS (As := [.int x24, .int x46]) (rest := []) S (c_X11_placeOf l E K F tl 0 z1 z2 u9 u10 z5 z6 z7 z8 z9 z10 z11 z12 z13 z14 z15 z16 z17 z18 z19 z20 ar0 ar1 f11 f12 f13 ar5 ar6 ar7 ar8 ar9 ar10 H x24 x46) ms_X11_placeOf km_X11_186 rfl rfl ⟨Nat.le_of_ble_eq_true rfl, Nat.le_of_ble_eq_true rfl⟩ hK (fun _ => XPh.blind) (fun U hU hW => XPh.at hK hz hS hT hU hW) rfl hl.1 (Nat.le_of_ble_eq_true rfl) dX11_fresh_102 ⟨Nat.le_of_ble_eq_true rfl, Nat.le_of_ble_eq_true rfl⟩) hS ?_
                      rintro _ _ locs ⟨x56, rfl, t55⟩ hS
                      have t55 : 0 ≤ x24.toInt ∧ x24.toInt ≤ 11 ∧ -99 ≤ x46.toInt ∧ x46.toInt ≤ 99 → x56.toInt = 199 * x24.toInt + x46.toInt + 99 := t55
                      refine lv_istore (lv' := [(6, .int x56), (0, .ref a), (2, .int p1), (3, .int x45), (4, .int x24), (5, .int x46)]) hx hb dX11_fresh_105 hl (by decide) rfl (fun ls hl => ?_)
                      refine lv_aload_n hx hb dX11_fresh_107 rfl (lv_at hl 1 rfl) ?_
                      refine gX11_11 S hK hT ha kf_X11_36 dX11_fresh_108 (fun hk58 => ?_)
                      refine lv_iload hx hb dX11_fresh_111 (lv_at hl 0 rfl) ?_
                      refine al_0 S hK hT hk58 ar_38 (by decide) (z_X11_fresh_10 x24.toInt x31.toInt x43.toInt x46.toInt x52.toInt x56.toInt N25 N47 (aF ar1 x24.toInt) (aI ar1 (10 * x24.toInt + (0 : Int))) (aI ar1 (10 * x24.toInt + (1 : Int))) (aI ar1 (10 * x24.toInt + (2 : Int))) (aI ar1 (10 * x24.toInt + (3 : Int))) (aL ar1 x24.toInt) hf26 hm27 c29 t30 (xbz b32) c36 v40 t42 hf48 hm49 t51 c54 t55 (xr x24) (xr x31) (xr x43) (xr x46) (xr x52) (xr x56)) dX11_fresh_113 (fun x59 o60 => ?_)
                      refine lv_aload_n hx hb dX11_fresh_114 rfl (lv_at hl 1 rfl) ?_
                      refine gX11_13 S hK hT ha kf_X11_42 dX11_fresh_115 (fun hk61 => ?_)
                      refine lv_iload hx hb dX11_fresh_118 (lv_at hl 0 rfl) ?_
                      refine al_0 S hK hT hk61 ar_38 (by decide) (z_X11_fresh_11 x24.toInt x31.toInt x43.toInt x46.toInt x52.toInt x56.toInt N25 N47 (aF ar1 x24.toInt) (aI ar1 (10 * x24.toInt + (0 : Int))) (aI ar1 (10 * x24.toInt + (1 : Int))) (aI ar1 (10 * x24.toInt + (2 : Int))) (aI ar1 (10 * x24.toInt + (3 : Int))) (aL ar1 x24.toInt) hf26 hm27 c29 t30 (xbz b32) c36 v40 t42 hf48 hm49 t51 c54 t55 (xr x24) (xr x31) (xr x43) (xr x46) (xr x52) (xr x56)) dX11_fresh_120 (fun x62 o63 => ?_)
                      have J129 : ∀ (x64 : Int32) (H : Heap) (locs : List Loc) (ls : Array Slot), TW E K F (tl, [0, z1, z2, u9, u10, z5, z6, z7, z8, z9, z10, z11, z12, z13, z14, z15, z16, z17, z18, z19, z20], [ar0, ar1, f11, f12, f13, ar5, ar6, ar7, ar8, ar9, ar10]) [] H → va_S (xA E) s.heap H locs → lv_has ls 8 [(0, .ref a), (2, .int p1), (3, .int x45), (4, .int x24), (5, .int x46), (6, .int x56)] → W p l e rm_X11_fresh s m args below meth c H locs 0 0 Q (F0 m 129 ls [.int x64]) := by
                        intro x64 H locs ls hT hS hl
                        refine lv_istore (lv' := [(7, .int x64), (0, .ref a), (2, .int p1), (3, .int x45), (4, .int x24), (5, .int x46), (6, .int x56)]) hx hb dX11_fresh_129 hl (by decide) rfl (fun ls hl => ?_)
                        refine lv_iload_n hx hb dX11_fresh_131 rfl (lv_at hl 3 rfl) ?_
                        refine lv_iload_n hx hb dX11_fresh_132 rfl (lv_at hl 2 rfl) ?_
                        have J193 : ∀ (x65 : Int32) (H : Heap) (locs : List Loc) (ls : Array Slot), TW E K F (tl, [0, z1, z2, u9, u10, z5, z6, z7, z8, z9, z10, z11, z12, z13, z14, z15, z16, z17, z18, z19, z20], [ar0, ar1, f11, f12, f13, ar5, ar6, ar7, ar8, ar9, ar10]) [] H → va_S (xA E) s.heap H locs → lv_has ls 8 [(0, .ref a), (2, .int p1), (4, .int x24), (5, .int x46)] → W p l e rm_X11_fresh s m args below meth c H locs 0 0 Q (F0 m 193 ls [.int x65, .int x45]) := by
                          intro x65 H locs ls hT hS hl
                          refine xi_iadd hx hb (rfl : Int32.toInt x45 = x45.toInt) (rfl : Int32.toInt x65 = x65.toInt) dX11_fresh_193 (fun x66 t67 => ?_)
                          refine lv_istore_n (lv' := [(3, .int x66), (0, .ref a), (2, .int p1), (4, .int x24), (5, .int x46)]) hx hb dX11_fresh_194 rfl hl (by decide) rfl (fun ls hl => ?_)
                          refine xi_iinc (n := 1) (lv' := fun z9 => [(5, .int z9), (3, .int x66), (0, .ref a), (2, .int p1), (4, .int x24)]) (k := 4) hx hb (rfl : Int32.toInt x46 = x46.toInt) (by decide) dX11_fresh_195 hl rfl (by decide) (fun _ => rfl) (fun x68 ls t69 hl => ?_)
                          have hl : lv_has ls 8 [(5, .int x68), (3, .int x66), (0, .ref a), (2, .int p1), (4, .int x24)] := hl
                          refine lv_goto (tgt := 87) hx hb dX11_fresh_198 (by decide) ?_
                          exact ih50 x66 x68 _ _ _ (z_X11_fresh_12 x24.toInt x31.toInt x43.toInt x46.toInt x52.toInt x56.toInt x68.toInt N25 N47 (aF ar1 x24.toInt) (aI ar1 (10 * x24.toInt + (0 : Int))) (aI ar1 (10 * x24.toInt + (1 : Int))) (aI ar1 (10 * x24.toInt + (2 : Int))) (aI ar1 (10 * x24.toInt + (3 : Int))) (aL ar1 x24.toInt) hf26 hm27 c29 t30 (xbz b32) c36 v40 t42 hf48 hm49 t51 c54 t55 t69 (xr x24) (xr x31) (xr x43) (xr x46) (xr x52) (xr x56) (xr x68)) (z_X11_fresh_13 x24.toInt x31.toInt x43.toInt x46.toInt x52.toInt x56.toInt x68.toInt N25 N47 (aF ar1 x24.toInt) (aI ar1 (10 * x24.toInt + (0 : Int))) (aI ar1 (10 * x24.toInt + (1 : Int))) (aI ar1 (10 * x24.toInt + (2 : Int))) (aI ar1 (10 * x24.toInt + (3 : Int))) (aL ar1 x24.toInt) hf26 hm27 c29 t30 (xbz b32) c36 v40 t42 hf48 hm49 t51 c54 t55 t69 (xr x24) (xr x31) (xr x43) (xr x46) (xr x52) (xr x56) (xr x68)) hT.nil hS (lv_sub hl [2, 3, 1, 4, 0] rfl)
                        refine xi_zne (tgt := 166) hx hb (rfl : Int32.toInt p1 = p1.toInt) dX11_fresh_133 (by decide) (fun c70 => ?_) (fun c70 => ?_)
                        · refine lv_iload hx hb dX11_fresh_166 (lv_at hl 0 rfl) ?_
                          have J192 : ∀ (H : Heap) (locs : List Loc) (ls : Array Slot), TW E K F (tl, [0, z1, z2, u9, u10, z5, z6, z7, z8, z9, z10, z11, z12, z13, z14, z15, z16, z17, z18, z19, z20], [ar0, ar1, f11, f12, f13, ar5, ar6, ar7, ar8, ar9, ar10]) [] H → va_S (xA E) s.heap H locs → lv_has ls 8 [(0, .ref a), (2, .int p1), (4, .int x24), (5, .int x46)] → W p l e rm_X11_fresh s m args below meth c H locs 0 0 Q (F0 m 192 ls [.int x45]) := by
                            intro H locs ls hT hS hl
                            refine lv_iconst (v := 0) hx hb dX11_fresh_192 (by decide) ?_
                            exact J193 0 _ _ _ hT.nil hS (lv_sub hl [0, 1, 2, 3] rfl)
                          refine xi_zne (tgt := 192) hx hb (rfl : Int32.toInt x64 = x64.toInt) dX11_fresh_168 (by decide) (fun c71 => ?_) (fun c71 => ?_)
                          · exact J192 _ _ _ hT.nil hS (lv_sub hl [1, 2, 4, 5] rfl)
                          · refine lv_aload_n hx hb dX11_fresh_171 rfl (lv_at hl 1 rfl) ?_
                            refine gX11_14 S hK hT ha kf_X11_45 dX11_fresh_172 (fun hk72 => ?_)
                            refine lv_iload hx hb dX11_fresh_175 (lv_at hl 6 rfl) ?_
                            refine al_0 S hK hT hk72 ar_38 (by decide) (z_X11_fresh_14 x24.toInt x31.toInt x43.toInt x46.toInt x52.toInt x56.toInt N25 N47 (aF ar1 x24.toInt) (aI ar1 (10 * x24.toInt + (0 : Int))) (aI ar1 (10 * x24.toInt + (1 : Int))) (aI ar1 (10 * x24.toInt + (2 : Int))) (aI ar1 (10 * x24.toInt + (3 : Int))) (aL ar1 x24.toInt) hf26 hm27 c29 t30 (xbz b32) c36 v40 t42 hf48 hm49 t51 c54 t55 (xr x24) (xr x31) (xr x43) (xr x46) (xr x52) (xr x56)) dX11_fresh_177 (fun x73 o74 => ?_)
                            refine lv_aload_n hx hb dX11_fresh_178 rfl (lv_at hl 1 rfl) ?_
                            refine gX11_13 S hK hT ha kf_X11_42 dX11_fresh_179 (fun hk75 => ?_)
                            refine lv_iload hx hb dX11_fresh_182 (lv_at hl 6 rfl) ?_
                            refine al_0 S hK hT hk75 ar_38 (by decide) (z_X11_fresh_15 x24.toInt x31.toInt x43.toInt x46.toInt x52.toInt x56.toInt N25 N47 (aF ar1 x24.toInt) (aI ar1 (10 * x24.toInt + (0 : Int))) (aI ar1 (10 * x24.toInt + (1 : Int))) (aI ar1 (10 * x24.toInt + (2 : Int))) (aI ar1 (10 * x24.toInt + (3 : Int))) (aL ar1 x24.toInt) hf26 hm27 c29 t30 (xbz b32) c36 v40 t42 hf48 hm49 t51 c54 t55 (xr x24) (xr x31) (xr x43) (xr x46) (xr x52) (xr x56)) dX11_fresh_184 (fun x76 o77 => ?_)
                            refine xi_ceq (tgt := 192) hx hb (rfl : Int32.toInt x73 = x73.toInt) (rfl : Int32.toInt x76 = x76.toInt) dX11_fresh_185 (by decide) (fun c78 => ?_) (fun c78 => ?_)
                            · exact J192 _ _ _ hT.nil hS (lv_sub hl [1, 2, 4, 5] rfl)
                            · refine lv_iconst (v := 1) hx hb dX11_fresh_188 (by decide) ?_
                              refine lv_goto (tgt := 193) hx hb dX11_fresh_189 (by decide) ?_
                              exact J193 1 _ _ _ hT.nil hS (lv_sub hl [1, 2, 4, 5] rfl)
                        · refine lv_iload hx hb dX11_fresh_136 (lv_at hl 0 rfl) ?_
                          have J162 : ∀ (H : Heap) (locs : List Loc) (ls : Array Slot), TW E K F (tl, [0, z1, z2, u9, u10, z5, z6, z7, z8, z9, z10, z11, z12, z13, z14, z15, z16, z17, z18, z19, z20], [ar0, ar1, f11, f12, f13, ar5, ar6, ar7, ar8, ar9, ar10]) [] H → va_S (xA E) s.heap H locs → lv_has ls 8 [(0, .ref a), (2, .int p1), (4, .int x24), (5, .int x46)] → W p l e rm_X11_fresh s m args below meth c H locs 0 0 Q (F0 m 162 ls [.int x45]) := by
                            intro H locs ls hT hS hl
                            refine lv_iconst (v := 0) hx hb dX11_fresh_162 (by decide) ?_
                            refine lv_goto (tgt := 193) hx hb dX11_fresh_163 (by decide) ?_
                            exact J193 0 _ _ _ hT.nil hS (lv_sub hl [0, 1, 2, 3] rfl)
                          refine xi_zeq (tgt := 162) hx hb (rfl : Int32.toInt x64 = x64.toInt) dX11_fresh_138 (by decide) (fun c79 => ?_) (fun c79 => ?_)
                          · exact J162 _ _ _ hT.nil hS (lv_sub hl [1, 2, 4, 5] rfl)
                          · refine lv_aload_n hx hb dX11_fresh_141 rfl (lv_at hl 1 rfl) ?_
                            refine gX11_11 S hK hT ha kf_X11_36 dX11_fresh_142 (fun hk80 => ?_)
                            refine lv_iload hx hb dX11_fresh_145 (lv_at hl 6 rfl) ?_
                            refine al_0 S hK hT hk80 ar_38 (by decide) (z_X11_fresh_16 x24.toInt x31.toInt x43.toInt x46.toInt x52.toInt x56.toInt N25 N47 (aF ar1 x24.toInt) (aI ar1 (10 * x24.toInt + (0 : Int))) (aI ar1 (10 * x24.toInt + (1 : Int))) (aI ar1 (10 * x24.toInt + (2 : Int))) (aI ar1 (10 * x24.toInt + (3 : Int))) (aL ar1 x24.toInt) hf26 hm27 c29 t30 (xbz b32) c36 v40 t42 hf48 hm49 t51 c54 t55 (xr x24) (xr x31) (xr x43) (xr x46) (xr x52) (xr x56)) dX11_fresh_147 (fun x81 o82 => ?_)
                            refine lv_aload_n hx hb dX11_fresh_148 rfl (lv_at hl 1 rfl) ?_
                            refine gX11_14 S hK hT ha kf_X11_45 dX11_fresh_149 (fun hk83 => ?_)
                            refine lv_iload hx hb dX11_fresh_152 (lv_at hl 6 rfl) ?_
                            refine al_0 S hK hT hk83 ar_38 (by decide) (z_X11_fresh_17 x24.toInt x31.toInt x43.toInt x46.toInt x52.toInt x56.toInt N25 N47 (aF ar1 x24.toInt) (aI ar1 (10 * x24.toInt + (0 : Int))) (aI ar1 (10 * x24.toInt + (1 : Int))) (aI ar1 (10 * x24.toInt + (2 : Int))) (aI ar1 (10 * x24.toInt + (3 : Int))) (aL ar1 x24.toInt) hf26 hm27 c29 t30 (xbz b32) c36 v40 t42 hf48 hm49 t51 c54 t55 (xr x24) (xr x31) (xr x43) (xr x46) (xr x52) (xr x56)) dX11_fresh_154 (fun x84 o85 => ?_)
                            refine xi_ceq (tgt := 162) hx hb (rfl : Int32.toInt x81 = x81.toInt) (rfl : Int32.toInt x84 = x84.toInt) dX11_fresh_155 (by decide) (fun c86 => ?_) (fun c86 => ?_)
                            · exact J162 _ _ _ hT.nil hS (lv_sub hl [1, 2, 4, 5] rfl)
                            · refine lv_iconst (v := 1) hx hb dX11_fresh_158 (by decide) ?_
                              refine lv_goto (tgt := 193) hx hb dX11_fresh_159 (by decide) ?_
                              exact J193 1 _ _ _ hT.nil hS (lv_sub hl [1, 2, 4, 5] rfl)
                      refine xi_ceq (tgt := 128) hx hb (rfl : Int32.toInt x59 = x59.toInt) (rfl : Int32.toInt x62 = x62.toInt) dX11_fresh_121 (by decide) (fun c87 => ?_) (fun c87 => ?_)
                      · refine lv_iconst (v := 0) hx hb dX11_fresh_128 (by decide) ?_
                        exact J129 0 _ _ _ hT.nil hS (lv_sub hl [1, 2, 3, 4, 5, 0] rfl)
                      · refine lv_iconst (v := 1) hx hb dX11_fresh_124 (by decide) ?_
                        refine lv_goto (tgt := 129) hx hb dX11_fresh_125 (by decide) ?_
                        exact J129 1 _ _ _ hT.nil hS (lv_sub hl [1, 2, 3, 4, 5, 0] rfl)
                exact L87 4294967297 x23 x43 _ _ _ (z_X11_fresh_18 x43.toInt (aF ar1 x24.toInt) (aL ar1 x24.toInt) t42 (xr x43)) (z_X11_fresh_19 x43.toInt (aF ar1 x24.toInt) (aL ar1 x24.toInt) t42 (xr x43)) hT.nil hS (lv_sub hl [1, 2, 3, 4, 0] rfl)
      exact L51 4294967297 0 0 _ _ _ (by decide) (by decide) hT.nil hS (lv_sub hl [2, 4, 1, 0] rfl)
    · refine lv_iconst (v := (-1)) hx hb dX11_fresh_23 (by decide) ?_
      exact x_ri hx hb hr hlk hQ (Nat.le_of_ble_eq_true rfl) (Nat.le_of_ble_eq_true rfl) hS dX11_fresh_24 (0, z3, z4, ar2, ar3, ar4) ⟨_, rfl⟩ hT.nil

theorem z_X11_question_1 (a0 : Int) (a1 : Int) (a2 : Int) (h0 : a1 = 0 ∨ (a1 = 1 ∧ 0 ≤ a0 ∧ a0 ≤ 11 ∧ 0 ≤ a2)) (h1 : a1 = 0 ∨ a1 = 1) (h2 : ¬ (a1 = 0)) (r0 : -2147483648 ≤ a0 ∧ a0 < 2147483648) (r1 : -2147483648 ≤ a1 ∧ a1 < 2147483648) : 0 ≤ a0 ∧ a0 ≤ 11 := by omega
theorem z_X11_question_2 (a0 : Int) (a1 : Int) (a2 : Int) (h0 : a1 = 0 ∨ (a1 = 1 ∧ 0 ≤ a0 ∧ a0 ≤ 11 ∧ 0 ≤ a2)) (h1 : a1 = 0 ∨ a1 = 1) (h2 : ¬ (a1 = 0)) (r0 : -2147483648 ≤ a0 ∧ a0 < 2147483648) (r1 : -2147483648 ≤ a1 ∧ a1 < 2147483648) : 0 ≤ a0 ∧ a0 ≤ 11 := by omega
theorem z_X11_question_3 (a0 : Int) (a1 : Int) (a2 : Int) (a3 : Int) (a4 : Int) (a5 : Int) (h0 : a1 = 0 ∨ (a1 = 1 ∧ 0 ≤ a0 ∧ a0 ≤ 11 ∧ 0 ≤ a2)) (h1 : a1 = 0 ∨ a1 = 1) (h2 : ¬ (a1 = 0)) (h3 : (-1 ≤ a2 ∧ a2 ≤ 5) ∧ (0 ≤ a3 ∧ a3 ≤ 2) ∧ (0 ≤ a4 ∧ a4 ≤ 2) ∧ (-1 ≤ a5 ∧ a5 ≤ 2) ∧ (a2 = 1 ∨ a2 = 3 ∨ a2 = 4 → 0 ≤ a5)) (r0 : -2147483648 ≤ a0 ∧ a0 < 2147483648) (r1 : -2147483648 ≤ a1 ∧ a1 < 2147483648) : 0 ≤ a0 ∧ a0 ≤ 11 := by first | (clear h1 h2 h3; omega) | omega
theorem z_X11_question_4 (a0 : Int) (a1 : Int) (a2 : Int) (a3 : Int) (a4 : Int) (a5 : Int) (h0 : a1 = 0 ∨ (a1 = 1 ∧ 0 ≤ a0 ∧ a0 ≤ 11 ∧ 0 ≤ a2)) (h1 : a1 = 0 ∨ a1 = 1) (h2 : ¬ (a1 = 0)) (h3 : (-1 ≤ a2 ∧ a2 ≤ 5) ∧ (0 ≤ a3 ∧ a3 ≤ 2) ∧ (0 ≤ a4 ∧ a4 ≤ 2) ∧ (-1 ≤ a5 ∧ a5 ≤ 2) ∧ (a2 = 1 ∨ a2 = 3 ∨ a2 = 4 → 0 ≤ a5)) (r0 : -2147483648 ≤ a0 ∧ a0 < 2147483648) (r1 : -2147483648 ≤ a1 ∧ a1 < 2147483648) : 0 ≤ a0 ∧ a0 ≤ 11 := by first | (clear h1 h2 h3; omega) | omega
theorem z_X11_question_5 (a0 : Int) (a1 : Int) (a2 : Int) (a3 : Int) (a4 : Int) (a5 : Int) (h0 : a1 = 0 ∨ (a1 = 1 ∧ 0 ≤ a0 ∧ a0 ≤ 11 ∧ 0 ≤ a2)) (h1 : a1 = 0 ∨ a1 = 1) (h2 : ¬ (a1 = 0)) (h3 : (-1 ≤ a2 ∧ a2 ≤ 5) ∧ (0 ≤ a3 ∧ a3 ≤ 2) ∧ (0 ≤ a4 ∧ a4 ≤ 2) ∧ (-1 ≤ a5 ∧ a5 ≤ 2) ∧ (a2 = 1 ∨ a2 = 3 ∨ a2 = 4 → 0 ≤ a5)) (r0 : -2147483648 ≤ a0 ∧ a0 < 2147483648) (r1 : -2147483648 ≤ a1 ∧ a1 < 2147483648) : 0 ≤ a2 := by first | (clear h1 h2; omega) | omega
theorem z_X11_question_6 (a0 : Int) (a1 : Int) (a2 : Int) (a3 : Int) (a4 : Int) (a5 : Int) (h0 : a3 = a4 ∧ -99 ≤ a4 ∧ a4 ≤ 0 ∧ 29 ≤ a5 ∧ a5 ≤ 99 ∧ a5 - a4 ≤ 198) (h1 : a1 = a5 ∧ -99 ≤ a4 ∧ a4 ≤ 0 ∧ 29 ≤ a5 ∧ a5 ≤ 99 ∧ a5 - a4 ≤ 198) (h2 : (a2 = 1 ∧ a3 ≤ a0 ∧ a0 ≤ a1) ∨ (a2 = 0 ∧ (a0 < a3 ∨ a1 < a0))) (h3 : ¬ (a2 = 0)) (r0 : -2147483648 ≤ a0 ∧ a0 < 2147483648) (r1 : -2147483648 ≤ a1 ∧ a1 < 2147483648) (r2 : -2147483648 ≤ a2 ∧ a2 < 2147483648) (r3 : -2147483648 ≤ a3 ∧ a3 < 2147483648) : a4 ≤ a0 ∧ a0 ≤ a5 := by first | (clear h3; omega) | omega
theorem z_X11_question_7 (a0 : Int) (a1 : Int) (a2 : Int) (a3 : Int) (a4 : Int) (a5 : Int) (h0 : a1 = 0 ∨ (a1 = 1 ∧ 0 ≤ a0 ∧ a0 ≤ 11 ∧ 0 ≤ a2)) (h1 : a1 = 0 ∨ a1 = 1) (h2 : ¬ (a1 = 0)) (h3 : (-1 ≤ a2 ∧ a2 ≤ 5) ∧ (0 ≤ a3 ∧ a3 ≤ 2) ∧ (0 ≤ a4 ∧ a4 ≤ 2) ∧ (-1 ≤ a5 ∧ a5 ≤ 2) ∧ (a2 = 1 ∨ a2 = 3 ∨ a2 = 4 → 0 ≤ a5)) (r0 : -2147483648 ≤ a0 ∧ a0 < 2147483648) (r1 : -2147483648 ≤ a1 ∧ a1 < 2147483648) : 0 ≤ a0 ∧ a0 ≤ 11 := by first | (clear h1 h2 h3; omega) | omega
theorem z_X11_question_8 (a0 : Int) (a1 : Int) (a2 : Int) (a3 : Int) (a4 : Int) (a5 : Int) (h0 : a1 = 0 ∨ (a1 = 1 ∧ 0 ≤ a0 ∧ a0 ≤ 11 ∧ 0 ≤ a2)) (h1 : a1 = 0 ∨ a1 = 1) (h2 : ¬ (a1 = 0)) (h3 : (-1 ≤ a2 ∧ a2 ≤ 5) ∧ (0 ≤ a3 ∧ a3 ≤ 2) ∧ (0 ≤ a4 ∧ a4 ≤ 2) ∧ (-1 ≤ a5 ∧ a5 ≤ 2) ∧ (a2 = 1 ∨ a2 = 3 ∨ a2 = 4 → 0 ≤ a5)) (r0 : -2147483648 ≤ a0 ∧ a0 < 2147483648) (r1 : -2147483648 ≤ a1 ∧ a1 < 2147483648) : 0 ≤ a2 := by first | (clear h1 h2; omega) | omega
theorem z_X11_question_9 (a0 : Int) (a1 : Int) (a2 : Int) (a3 : Int) (a4 : Int) (a5 : Int) (h0 : a3 = a4 ∧ -99 ≤ a4 ∧ a4 ≤ 0 ∧ 29 ≤ a5 ∧ a5 ≤ 99 ∧ a5 - a4 ≤ 198) (h1 : a1 = a5 ∧ -99 ≤ a4 ∧ a4 ≤ 0 ∧ 29 ≤ a5 ∧ a5 ≤ 99 ∧ a5 - a4 ≤ 198) (h2 : (a2 = 1 ∧ a3 ≤ a0 ∧ a0 ≤ a1) ∨ (a2 = 0 ∧ (a0 < a3 ∨ a1 < a0))) (h3 : ¬ (a2 = 0)) (r0 : -2147483648 ≤ a0 ∧ a0 < 2147483648) (r1 : -2147483648 ≤ a1 ∧ a1 < 2147483648) (r2 : -2147483648 ≤ a2 ∧ a2 < 2147483648) (r3 : -2147483648 ≤ a3 ∧ a3 < 2147483648) : a4 ≤ a0 ∧ a0 ≤ a5 := by first | (clear h3; omega) | omega
abbrev rm_X11_question : Room := { frames := 4, cells := 0, slots := 0, locals := 104 }
set_option maxHeartbeats 4000000 in
set_option maxRecDepth 100000 in
theorem c_X11_question (l : Launch) (E : XE) (K : Nat → Nat) (F : Nat → Nat → Nat) (tl z0 z1 z2 z3 z4 z5 z6 z7 z8 z9 z10 z11 z12 z13 z14 z15 z16 z17 z18 z19 z20 : Int32) (ar0 ar1 ar2 ar3 ar4 ar5 ar6 ar7 ar8 ar9 ar10 : Nat → Int32) (a : Nat) (p0 : Int32) (p1 : Int32) (p2 : Int32) (ha : K a = 13) (hR : RV ar1) : Met l yX11_question (xw yX11_question cX11_question 4 (some .int)) rm_X11_question (va_Pc [.ref a, .int p0, .int p1, .int p2] (XP E K F (tl, [z0, z1, z2, z3, z4, z5, z6, z7, z8, z9, z10, z11, z12, z13, z14, z15, z16, z17, z18, z19, z20], [ar0, ar1, ar2, ar3, ar4, ar5, ar6, ar7, ar8, ar9, ar10]))) (XQ E (fun v (u : Int32) => ∃ r : Int32, v = .int r) (fun u H => TW E K F (tl, [u, z1, z2, z3, z4, z5, z6, z7, z8, z9, z10, z11, z12, z13, z14, z15, z16, z17, z18, z19, z20], [ar0, ar1, ar2, ar3, ar4, ar5, ar6, ar7, ar8, ar9, ar10]) [] H)) 0 0 (xA E) := by
  refine x_enter (by decide) (Nat.le_of_ble_eq_true rfl) ?_
  intro p e s m args below meth c Q S hr hlk hnm hQ hP ls hl
  obtain ⟨hz, hK, hT⟩ := hP
  obtain ⟨hx, hb, -, -, -⟩ := id S
  obtain ⟨H, hT, hS, hgo⟩ : ∃ H : Heap, TW E K F (tl, [z0, z1, z2, z3, z4, z5, z6, z7, z8, z9, z10, z11, z12, z13, z14, z15, z16, z17, z18, z19, z20], [ar0, ar1, ar2, ar3, ar4, ar5, ar6, ar7, ar8, ar9, ar10]) [] H ∧ va_S (xA E) s.heap H [] ∧ H = s.heap := ⟨_, hT, va_S.rf, rfl⟩
  rw [← hgo]
  have hl : lv_has ls 4 [(0, .ref a), (1, .int p0), (2, .int p1), (3, .int p2)] := hl
  refine lv_aload_n hx hb dX11_question_0 rfl (lv_at hl 0 rfl) ?_
  refine lv_iconst (v := 0) hx hb dX11_question_1 (by decide) ?_
  refine pX11_0 (kq := []) (v := 0) S hK hT hS ha kf_X11_134 (Nat.le_of_ble_eq_true rfl) dX11_question_2 (fun _ h => by cases h) (fun H locs hT hS => ?_)
  have hT : TW E K F (tl, [0, z1, z2, z3, z4, z5, z6, z7, z8, z9, z10, z11, z12, z13, z14, z15, z16, z17, z18, z19, z20], [ar0, ar1, ar2, ar3, ar4, ar5, ar6, ar7, ar8, ar9, ar10]) [] H := hT
  refine lv_aload_n hx hb dX11_question_5 rfl (lv_at hl 0 rfl) ?_
  refine lv_iload_n hx hb dX11_question_6 rfl (lv_at hl 1 rfl) ?_
  refine x_clp (x_runV (b := a) (As := [.int p0]) (rest := []) S (c_X11_isRule l E K F tl 0 z1 z2 z3 z4 z5 z6 z7 z8 z9 z10 z11 z12 z13 z14 z15 z16 z17 z18 z19 z20 ar0 ar1 ar2 ar3 ar4 ar5 ar6 ar7 ar8 ar9 ar10 H a p0 ha hR) mv_X11_isRule km_X11_162 rfl rfl ⟨Nat.le_of_ble_eq_true rfl, Nat.le_of_ble_eq_true rfl⟩ (rc_13 hK hT ha) hK (fun _ => XPh.blind) (fun U hU hW => XPh.at hK hz hS hT hU hW) rfl hl.1 (Nat.le_of_ble_eq_true rfl) dX11_question_7 ⟨Nat.le_of_ble_eq_true rfl, Nat.le_of_ble_eq_true rfl⟩) hS ?_
  rintro _ _ locs ⟨x2, rfl, b3, t1⟩ hS
  have t1 : x2.toInt = 0 ∨ (x2.toInt = 1 ∧ 0 ≤ p0.toInt ∧ p0.toInt ≤ 11 ∧ 0 ≤ (aI ar1 (10 * p0.toInt + (0 : Int)))) := t1
  refine xi_zeq (tgt := 43) hx hb (rfl : Int32.toInt x2 = x2.toInt) dX11_question_10 (by decide) (fun c4 => ?_) (fun c4 => ?_)
  · refine lv_ldc (v := (-2147483648)) hx hb S.2.2.2.1 (S.2.2.2.2 _ (List.mem_cons_of_mem _ kc_X11_57)) dX11_question_43 ?_
    exact x_ri hx hb hr hlk hQ (Nat.le_of_ble_eq_true rfl) (Nat.le_of_ble_eq_true rfl) hS dX11_question_45 (0) ⟨_, rfl⟩ hT.nil
  · refine lv_iload_n hx hb dX11_question_13 rfl (lv_at hl 2 rfl) ?_
    refine lv_i2l (v := p1.toInt64) hx hb dX11_question_14 rfl ?_
    refine lv_aload_n hx hb dX11_question_15 rfl (lv_at hl 0 rfl) ?_
    refine lv_iload_n hx hb dX11_question_16 rfl (lv_at hl 1 rfl) ?_
    refine x_clp (x_runV (b := a) (As := [.int p0]) (rest := [.long p1.toInt64]) S (c_X11_firstSubject l E K F tl 0 z1 z2 z3 z4 z5 z6 z7 z8 z9 z10 z11 z12 z13 z14 z15 z16 z17 z18 z19 z20 ar0 ar1 ar2 ar3 ar4 ar5 ar6 ar7 ar8 ar9 ar10 H a p0 ha hR (z_X11_question_1 p0.toInt x2.toInt (aI ar1 (10 * p0.toInt + (0 : Int))) t1 (xbz b3) c4 (xr p0) (xr x2))) mv_X11_firstSubject km_X11_179 rfl rfl ⟨Nat.le_of_ble_eq_true rfl, Nat.le_of_ble_eq_true rfl⟩ (rc_13 hK hT ha) hK (fun _ => XPh.blind) (fun U hU hW => XPh.at hK hz hS hT hU hW) rfl hl.1 (Nat.le_of_ble_eq_true rfl) dX11_question_17 ⟨Nat.le_of_ble_eq_true rfl, Nat.le_of_ble_eq_true rfl⟩) hS ?_
    rintro _ _ locs ⟨x6, rfl, t5⟩ hS
    have t5 : x6.toInt = (aF ar1 p0.toInt) ∧ -99 ≤ (aF ar1 p0.toInt) ∧ (aF ar1 p0.toInt) ≤ 0 ∧ 29 ≤ (aL ar1 p0.toInt) ∧ (aL ar1 p0.toInt) ≤ 99 ∧ (aL ar1 p0.toInt) - (aF ar1 p0.toInt) ≤ 198 := t5
    have v8 : (-1 ≤ (aI ar1 (10 * p0.toInt + (0 : Int))) ∧ (aI ar1 (10 * p0.toInt + (0 : Int))) ≤ 5) ∧ (0 ≤ (aI ar1 (10 * p0.toInt + (1 : Int))) ∧ (aI ar1 (10 * p0.toInt + (1 : Int))) ≤ 2) ∧ (0 ≤ (aI ar1 (10 * p0.toInt + (2 : Int))) ∧ (aI ar1 (10 * p0.toInt + (2 : Int))) ≤ 2) ∧ (-1 ≤ (aI ar1 (10 * p0.toInt + (3 : Int))) ∧ (aI ar1 (10 * p0.toInt + (3 : Int))) ≤ 2) ∧ ((aI ar1 (10 * p0.toInt + (0 : Int))) = 1 ∨ (aI ar1 (10 * p0.toInt + (0 : Int))) = 3 ∨ (aI ar1 (10 * p0.toInt + (0 : Int))) = 4 → 0 ≤ (aI ar1 (10 * p0.toInt + (3 : Int)))) := RV.row hR (z_X11_question_2 p0.toInt x2.toInt (aI ar1 (10 * p0.toInt + (0 : Int))) t1 (xbz b3) c4 (xr p0) (xr x2))
    refine lv_i2l (v := x6.toInt64) hx hb dX11_question_20 rfl ?_
    refine lv_aload_n hx hb dX11_question_21 rfl (lv_at hl 0 rfl) ?_
    refine lv_iload_n hx hb dX11_question_22 rfl (lv_at hl 1 rfl) ?_
    refine x_clp (x_runV (b := a) (As := [.int p0]) (rest := [.long x6.toInt64, .long p1.toInt64]) S (c_X11_lastSubject l E K F tl 0 z1 z2 z3 z4 z5 z6 z7 z8 z9 z10 z11 z12 z13 z14 z15 z16 z17 z18 z19 z20 ar0 ar1 ar2 ar3 ar4 ar5 ar6 ar7 ar8 ar9 ar10 H a p0 ha hR (z_X11_question_3 p0.toInt x2.toInt (aI ar1 (10 * p0.toInt + (0 : Int))) (aI ar1 (10 * p0.toInt + (1 : Int))) (aI ar1 (10 * p0.toInt + (2 : Int))) (aI ar1 (10 * p0.toInt + (3 : Int))) t1 (xbz b3) c4 v8 (xr p0) (xr x2))) mv_X11_lastSubject km_X11_183 rfl rfl ⟨Nat.le_of_ble_eq_true rfl, Nat.le_of_ble_eq_true rfl⟩ (rc_13 hK hT ha) hK (fun _ => XPh.blind) (fun U hU hW => XPh.at hK hz hS hT hU hW) rfl hl.1 (Nat.le_of_ble_eq_true rfl) dX11_question_23 ⟨Nat.le_of_ble_eq_true rfl, Nat.le_of_ble_eq_true rfl⟩) hS ?_
    rintro _ _ locs ⟨x10, rfl, t9⟩ hS
    have t9 : x10.toInt = (aL ar1 p0.toInt) ∧ -99 ≤ (aF ar1 p0.toInt) ∧ (aF ar1 p0.toInt) ≤ 0 ∧ 29 ≤ (aL ar1 p0.toInt) ∧ (aL ar1 p0.toInt) ≤ 99 ∧ (aL ar1 p0.toInt) - (aF ar1 p0.toInt) ≤ 198 := t9
    refine lv_i2l (v := x10.toInt64) hx hb dX11_question_26 rfl ?_
    refine x_clp (x_runS (As := [.long p1.toInt64, .long x6.toInt64, .long x10.toInt64]) (rest := []) S (c_X11_in l E K F tl 0 z1 z2 z3 z4 z5 z6 z7 z8 z9 z10 z11 z12 z13 z14 z15 z16 z17 z18 z19 z20 ar0 ar1 ar2 ar3 ar4 ar5 ar6 ar7 ar8 ar9 ar10 H p1.toInt64 x6.toInt64 x10.toInt64 p1.toInt x6.toInt x10.toInt (xl_i2l (rfl : Int32.toInt p1 = p1.toInt)) (xl_i2l (rfl : Int32.toInt x6 = x6.toInt)) (xl_i2l (rfl : Int32.toInt x10 = x10.toInt))) ms_X11_in km_X11_139 rfl rfl ⟨Nat.le_of_ble_eq_true rfl, Nat.le_of_ble_eq_true rfl⟩ hK (fun _ => XPh.blind) (fun U hU hW => XPh.at hK hz hS hT hU hW) rfl hl.1 (Nat.le_of_ble_eq_true rfl) dX11_question_27 ⟨Nat.le_of_ble_eq_true rfl, Nat.le_of_ble_eq_true rfl⟩) hS ?_
    rintro _ _ locs ⟨x12, rfl, b13, t14⟩ hS
    have t14 : (x12.toInt = 1 ∧ x6.toInt ≤ p1.toInt ∧ p1.toInt ≤ x10.toInt) ∨ (x12.toInt = 0 ∧ (p1.toInt < x6.toInt ∨ x10.toInt < p1.toInt)) := t14
    refine xi_zeq (tgt := 43) hx hb (rfl : Int32.toInt x12 = x12.toInt) dX11_question_30 (by decide) (fun c15 => ?_) (fun c15 => ?_)
    · refine lv_ldc (v := (-2147483648)) hx hb S.2.2.2.1 (S.2.2.2.2 _ (List.mem_cons_of_mem _ kc_X11_57)) dX11_question_43 ?_
      exact x_ri hx hb hr hlk hQ (Nat.le_of_ble_eq_true rfl) (Nat.le_of_ble_eq_true rfl) hS dX11_question_45 (0) ⟨_, rfl⟩ hT.nil
    · refine lv_iload_n hx hb dX11_question_33 rfl (lv_at hl 3 rfl) ?_
      refine lv_i2l (v := p2.toInt64) hx hb dX11_question_34 rfl ?_
      refine lv_lconst (v := (0 : Int64)) hx hb dX11_question_35 (by decide) ?_
      refine lv_lconst (v := (1 : Int64)) hx hb dX11_question_36 (by decide) ?_
      refine x_clp (x_runS (As := [.long p2.toInt64, .long (0 : Int64), .long (1 : Int64)]) (rest := []) S (c_X11_in l E K F tl 0 z1 z2 z3 z4 z5 z6 z7 z8 z9 z10 z11 z12 z13 z14 z15 z16 z17 z18 z19 z20 ar0 ar1 ar2 ar3 ar4 ar5 ar6 ar7 ar8 ar9 ar10 H p2.toInt64 (0 : Int64) (1 : Int64) p2.toInt (0 : Int) (1 : Int) (xl_i2l (rfl : Int32.toInt p2 = p2.toInt)) (by decide) (by decide)) ms_X11_in km_X11_139 rfl rfl ⟨Nat.le_of_ble_eq_true rfl, Nat.le_of_ble_eq_true rfl⟩ hK (fun _ => XPh.blind) (fun U hU hW => XPh.at hK hz hS hT hU hW) rfl hl.1 (Nat.le_of_ble_eq_true rfl) dX11_question_37 ⟨Nat.le_of_ble_eq_true rfl, Nat.le_of_ble_eq_true rfl⟩) hS ?_
      rintro _ _ locs ⟨x16, rfl, b17, t18⟩ hS
      have t18 : (x16.toInt = 1 ∧ (0 : Int) ≤ p2.toInt ∧ p2.toInt ≤ (1 : Int)) ∨ (x16.toInt = 0 ∧ (p2.toInt < (0 : Int) ∨ (1 : Int) < p2.toInt)) := t18
      refine xi_zne (tgt := 46) hx hb (rfl : Int32.toInt x16 = x16.toInt) dX11_question_40 (by decide) (fun c19 => ?_) (fun c19 => ?_)
      · refine lv_iload_n hx hb dX11_question_46 rfl (lv_at hl 3 rfl) ?_
        refine xi_zne (tgt := 64) hx hb (rfl : Int32.toInt p2 = p2.toInt) dX11_question_47 (by decide) (fun c20 => ?_) (fun c20 => ?_)
        · refine lv_aload_n hx hb dX11_question_64 rfl (lv_at hl 0 rfl) ?_
          refine lv_iload_n hx hb dX11_question_65 rfl (lv_at hl 1 rfl) ?_
          refine lv_iload_n hx hb dX11_question_66 rfl (lv_at hl 2 rfl) ?_
          refine lv_aload_n hx hb dX11_question_67 rfl (lv_at hl 0 rfl) ?_
          refine gX11_1 S hK hT ha kf_X11_9 dX11_question_68 (fun hk21 => ?_)
          refine lv_iconst (v := 0) hx hb dX11_question_71 (by decide) ?_
          refine x_clp (x_runV (b := a) (As := [.int p0, .int p1, .ref (F a 1), .int 0]) (rest := []) S (c_X11_fails l E K F tl 0 z1 z2 z3 z4 z5 z6 z7 z8 z9 z10 z11 z12 z13 z14 z15 z16 z17 z18 z19 z20 ar0 ar1 ar2 ar3 ar4 ar5 ar6 ar7 ar8 ar9 ar10 H a p0 p1 (F a 1) 0 ha (XO.a hk21 (by decide)) hR (z_X11_question_4 p0.toInt x2.toInt (aI ar1 (10 * p0.toInt + (0 : Int))) (aI ar1 (10 * p0.toInt + (1 : Int))) (aI ar1 (10 * p0.toInt + (2 : Int))) (aI ar1 (10 * p0.toInt + (3 : Int))) t1 (xbz b3) c4 v8 (xr p0) (xr x2)) (z_X11_question_5 p0.toInt x2.toInt (aI ar1 (10 * p0.toInt + (0 : Int))) (aI ar1 (10 * p0.toInt + (1 : Int))) (aI ar1 (10 * p0.toInt + (2 : Int))) (aI ar1 (10 * p0.toInt + (3 : Int))) t1 (xbz b3) c4 v8 (xr p0) (xr x2)) (z_X11_question_6 p1.toInt x10.toInt x12.toInt x6.toInt (aF ar1 p0.toInt) (aL ar1 p0.toInt) t5 t9 t14 c15 (xr p1) (xr x10) (xr x12) (xr x6))) mv_X11_fails km_X11_221 rfl rfl ⟨Nat.le_of_ble_eq_true rfl, Nat.le_of_ble_eq_true rfl⟩ (rc_13 hK hT ha) hK (fun _ => XPh.blind) (fun U hU hW => XPh.at hK hz hS hT hU hW) rfl hl.1 (Nat.le_of_ble_eq_true rfl) dX11_question_72 ⟨Nat.le_of_ble_eq_true rfl, Nat.le_of_ble_eq_true rfl⟩) hS ?_
          rintro _ _ locs ⟨x22, rfl, b23⟩ hS
          refine xi_zeq (tgt := 82) hx hb (rfl : Int32.toInt x22 = x22.toInt) dX11_question_75 (by decide) (fun c24 => ?_) (fun c24 => ?_)
          · refine lv_iconst (v := 0) hx hb dX11_question_82 (by decide) ?_
            exact x_ri hx hb hr hlk hQ (Nat.le_of_ble_eq_true rfl) (Nat.le_of_ble_eq_true rfl) hS dX11_question_83 (0) ⟨_, rfl⟩ hT.nil
          · refine lv_iconst (v := 1) hx hb dX11_question_78 (by decide) ?_
            refine lv_goto (tgt := 83) hx hb dX11_question_79 (by decide) ?_
            exact x_ri hx hb hr hlk hQ (Nat.le_of_ble_eq_true rfl) (Nat.le_of_ble_eq_true rfl) hS dX11_question_83 (0) ⟨_, rfl⟩ hT.nil
        · refine lv_aload_n hx hb dX11_question_50 rfl (lv_at hl 0 rfl) ?_
          refine lv_iload_n hx hb dX11_question_51 rfl (lv_at hl 1 rfl) ?_
          refine lv_iload_n hx hb dX11_question_52 rfl (lv_at hl 2 rfl) ?_
          refine lv_aload_n hx hb dX11_question_53 rfl (lv_at hl 0 rfl) ?_
          refine gX11_1 S hK hT ha kf_X11_9 dX11_question_54 (fun hk25 => ?_)
          refine lv_iconst (v := 0) hx hb dX11_question_57 (by decide) ?_
          refine x_clp (x_runV (b := a) (As := [.int p0, .int p1, .ref (F a 1), .int 0]) (rest := []) S (c_X11_stateOf l E K F tl 0 z1 z2 z3 z4 z5 z6 z7 z8 z9 z10 z11 z12 z13 z14 z15 z16 z17 z18 z19 z20 ar0 ar1 ar2 ar3 ar4 ar5 ar6 ar7 ar8 ar9 ar10 H a p0 p1 (F a 1) 0 ha (XO.a hk25 (by decide)) hR (z_X11_question_7 p0.toInt x2.toInt (aI ar1 (10 * p0.toInt + (0 : Int))) (aI ar1 (10 * p0.toInt + (1 : Int))) (aI ar1 (10 * p0.toInt + (2 : Int))) (aI ar1 (10 * p0.toInt + (3 : Int))) t1 (xbz b3) c4 v8 (xr p0) (xr x2)) (z_X11_question_8 p0.toInt x2.toInt (aI ar1 (10 * p0.toInt + (0 : Int))) (aI ar1 (10 * p0.toInt + (1 : Int))) (aI ar1 (10 * p0.toInt + (2 : Int))) (aI ar1 (10 * p0.toInt + (3 : Int))) t1 (xbz b3) c4 v8 (xr p0) (xr x2)) (z_X11_question_9 p1.toInt x10.toInt x12.toInt x6.toInt (aF ar1 p0.toInt) (aL ar1 p0.toInt) t5 t9 t14 c15 (xr p1) (xr x10) (xr x12) (xr x6))) mv_X11_stateOf km_X11_189 rfl rfl ⟨Nat.le_of_ble_eq_true rfl, Nat.le_of_ble_eq_true rfl⟩ (rc_13 hK hT ha) hK (fun _ => XPh.blind) (fun U hU hW => XPh.at hK hz hS hT hU hW) rfl hl.1 (Nat.le_of_ble_eq_true rfl) dX11_question_58 ⟨Nat.le_of_ble_eq_true rfl, Nat.le_of_ble_eq_true rfl⟩) hS ?_
          rintro _ _ locs ⟨x26, rfl⟩ hS
          refine lv_goto (tgt := 83) hx hb dX11_question_61 (by decide) ?_
          exact x_ri hx hb hr hlk hQ (Nat.le_of_ble_eq_true rfl) (Nat.le_of_ble_eq_true rfl) hS dX11_question_83 (0) ⟨_, rfl⟩ hT.nil
      · refine lv_ldc (v := (-2147483648)) hx hb S.2.2.2.1 (S.2.2.2.2 _ (List.mem_cons_of_mem _ kc_X11_57)) dX11_question_43 ?_
        exact x_ri hx hb hr hlk hQ (Nat.le_of_ble_eq_true rfl) (Nat.le_of_ble_eq_true rfl) hS dX11_question_45 (0) ⟨_, rfl⟩ hT.nil

theorem z_X11_first_1 (a0 : Int) (h0 : (0 : Int) ≤ a0) (r0 : -2147483648 ≤ a0 ∧ a0 < 2147483648) : ¬ (2147483648 - a0 < ((0 : Nat) : Int)) := by omega
theorem z_X11_first_2 (a0 : Int) (a1 : Int) (a2 : Nat) (a3 : Nat) (h0 : 0 ≤ a0 ∧ a0 ≤ 2388 ∧ a0 ≤ ((a3 : Nat) : Int)) (h1 : (0 : Int) ≤ a1) (h2 : 2147483648 - a1 < ((a2 + 1 : Nat) : Int)) (h3 : a0 ≤ a1) (r0 : -2147483648 ≤ a0 ∧ a0 < 2147483648) (r1 : -2147483648 ≤ a1 ∧ a1 < 2147483648) : 0 ≤ a0 ∧ a0 ≤ 2388 ∧ a0 ≤ ((a3 : Nat) : Int) := by first | (clear h1 h2; omega) | omega
theorem z_X11_first_3 (a0 : Int) (a1 : Int) (a2 : Int) (a3 : Nat) (a4 : Nat) (h0 : 0 ≤ a0 ∧ a0 ≤ 2388 ∧ a0 ≤ ((a4 : Nat) : Int)) (h1 : (0 : Int) ≤ a1) (h2 : 2147483648 - a1 < ((a3 + 1 : Nat) : Int)) (h3 : a0 ≤ a1) (h4 : a2 = -1 ∨ (0 ≤ a2 ∧ a2 < a0)) (h5 : a2 ≠ (-1 : Int)) (r0 : -2147483648 ≤ a0 ∧ a0 < 2147483648) (r1 : -2147483648 ≤ a1 ∧ a1 < 2147483648) (r2 : -2147483648 ≤ a2 ∧ a2 < 2147483648) : 0 ≤ a2 ∧ a2 < ((2400 : Nat) : Int) := by first | (clear h0 h1 h2 h3; omega) | (clear h1 h2; omega) | omega
theorem z_X11_first_4 (a0 : Int) (a1 : Int) (a2 : Int) (a3 : Nat) (a4 : Nat) (h0 : 0 ≤ a0 ∧ a0 ≤ 2388 ∧ a0 ≤ ((a4 : Nat) : Int)) (h1 : (0 : Int) ≤ a1) (h2 : 2147483648 - a1 < ((a3 + 1 : Nat) : Int)) (h3 : a0 ≤ a1) (h4 : a2 = -1 ∨ (0 ≤ a2 ∧ a2 < a0)) (h5 : a2 ≠ (-1 : Int)) (r0 : -2147483648 ≤ a0 ∧ a0 < 2147483648) (r1 : -2147483648 ≤ a1 ∧ a1 < 2147483648) (r2 : -2147483648 ≤ a2 ∧ a2 < 2147483648) : 0 ≤ a2 ∧ a2 < ((2400 : Nat) : Int) := by first | (clear h0 h1 h2 h3; omega) | (clear h1 h2; omega) | omega
theorem z_X11_first_5 (a0 : Int) (a1 : Int) (a2 : Int) (a3 : Nat) (a4 : Nat) (h0 : 0 ≤ a0 ∧ a0 ≤ 2388 ∧ a0 ≤ ((a4 : Nat) : Int)) (h1 : (0 : Int) ≤ a1) (h2 : 2147483648 - a1 < ((a3 + 1 : Nat) : Int)) (h3 : a0 ≤ a1) (h4 : a2 = -1 ∨ (0 ≤ a2 ∧ a2 < a0)) (h5 : a2 ≠ (-1 : Int)) (r0 : -2147483648 ≤ a0 ∧ a0 < 2147483648) (r1 : -2147483648 ≤ a1 ∧ a1 < 2147483648) (r2 : -2147483648 ≤ a2 ∧ a2 < 2147483648) : 0 ≤ a2 ∧ a2 < ((a4 : Nat) : Int) := by first | (clear h1 h2 h3; omega) | (clear h1 h2; omega) | omega
theorem z_X11_first_6 (a0 : Int) (a1 : Int) (a2 : Int) (h0 : a0 = a2) (h1 : 0 ≤ a0 ∧ a0 ≤ 11 ∧ 0 ≤ a1) (r0 : -2147483648 ≤ a0 ∧ a0 < 2147483648) : 0 ≤ a0 ∧ a0 ≤ 11 := by omega
theorem z_X11_first_7 (a0 : Int) (a1 : Int) (a2 : Nat) (a3 : Nat) (h0 : 0 ≤ a0 ∧ a0 ≤ 2388 ∧ a0 ≤ ((a3 : Nat) : Int)) (h1 : (0 : Int) ≤ a1) (h2 : 2147483648 - a1 < ((a2 + 1 : Nat) : Int)) (h3 : ¬ (a0 ≤ a1)) (r0 : -2147483648 ≤ a0 ∧ a0 < 2147483648) (r1 : -2147483648 ≤ a1 ∧ a1 < 2147483648) : 0 ≤ a1 ∧ a1 < ((2400 : Nat) : Int) := by first | (clear h0; omega) | omega
theorem z_X11_first_8 (a0 : Int) (a1 : Int) (a2 : Nat) (a3 : Nat) (h0 : 0 ≤ a0 ∧ a0 ≤ 2388 ∧ a0 ≤ ((a3 : Nat) : Int)) (h1 : (0 : Int) ≤ a1) (h2 : 2147483648 - a1 < ((a2 + 1 : Nat) : Int)) (h3 : ¬ (a0 ≤ a1)) (r0 : -2147483648 ≤ a0 ∧ a0 < 2147483648) (r1 : -2147483648 ≤ a1 ∧ a1 < 2147483648) : 0 ≤ a1 ∧ a1 < ((a3 : Nat) : Int) := by omega
theorem z_X11_first_9 (a0 : Int) (a1 : Int) (a2 : Int) (h0 : a0 = a2) (h1 : 0 ≤ a0 ∧ a0 ≤ 11 ∧ 0 ≤ a1) (r0 : -2147483648 ≤ a0 ∧ a0 < 2147483648) : 0 ≤ a0 ∧ a0 ≤ 11 := by omega
theorem z_X11_first_10 (a0 : Int) (a1 : Int) (a2 : Nat) (a3 : Nat) (h0 : 0 ≤ a0 ∧ a0 ≤ 2388 ∧ a0 ≤ ((a3 : Nat) : Int)) (h1 : (0 : Int) ≤ a1) (h2 : 2147483648 - a1 < ((a2 + 1 : Nat) : Int)) (h3 : ¬ (a0 ≤ a1)) (r0 : -2147483648 ≤ a0 ∧ a0 < 2147483648) (r1 : -2147483648 ≤ a1 ∧ a1 < 2147483648) : 0 ≤ a1 ∧ a1 < ((2400 : Nat) : Int) := by first | (clear h0; omega) | omega
theorem z_X11_first_11 (a0 : Int) (a1 : Int) (a2 : Nat) (a3 : Nat) (h0 : 0 ≤ a0 ∧ a0 ≤ 2388 ∧ a0 ≤ ((a3 : Nat) : Int)) (h1 : (0 : Int) ≤ a1) (h2 : 2147483648 - a1 < ((a2 + 1 : Nat) : Int)) (h3 : ¬ (a0 ≤ a1)) (r0 : -2147483648 ≤ a0 ∧ a0 < 2147483648) (r1 : -2147483648 ≤ a1 ∧ a1 < 2147483648) : 0 ≤ a1 ∧ a1 < ((a3 : Nat) : Int) := by omega
theorem z_X11_first_12 (a0 : Int) (a1 : Int) (a2 : Int) (a3 : Int) (a4 : Int) (a5 : Int) (h0 : a0 = a5) (h1 : 0 ≤ a0 ∧ a0 ≤ 11 ∧ 0 ≤ a1) (h2 : (-1 ≤ a1 ∧ a1 ≤ 5) ∧ (0 ≤ a2 ∧ a2 ≤ 2) ∧ (0 ≤ a3 ∧ a3 ≤ 2) ∧ (-1 ≤ a4 ∧ a4 ≤ 2) ∧ (a1 = 1 ∨ a1 = 3 ∨ a1 = 4 → 0 ≤ a4)) (r0 : -2147483648 ≤ a0 ∧ a0 < 2147483648) : 0 ≤ a0 ∧ a0 ≤ 11 := by omega
theorem z_X11_first_13 (a0 : Int) (a1 : Int) (a2 : Int) (a3 : Int) (a4 : Int) (a5 : Int) (h0 : a0 = a5) (h1 : 0 ≤ a0 ∧ a0 ≤ 11 ∧ 0 ≤ a1) (h2 : (-1 ≤ a1 ∧ a1 ≤ 5) ∧ (0 ≤ a2 ∧ a2 ≤ 2) ∧ (0 ≤ a3 ∧ a3 ≤ 2) ∧ (-1 ≤ a4 ∧ a4 ≤ 2) ∧ (a1 = 1 ∨ a1 = 3 ∨ a1 = 4 → 0 ≤ a4)) (r0 : -2147483648 ≤ a0 ∧ a0 < 2147483648) : 0 ≤ a1 := by omega
theorem z_X11_first_14 (a0 : Int) (a1 : Int) (a2 : Int) (a3 : Int) (h0 : a0 = a2) (h1 : -99 ≤ a0 ∧ a0 ≤ 99 ∧ a1 ≤ a0 ∧ a0 ≤ a3) (r0 : -2147483648 ≤ a0 ∧ a0 < 2147483648) : a1 ≤ a0 ∧ a0 ≤ a3 := by omega
theorem z_X11_first_15 (a0 : Int) (a1 : Int) (a2 : Int) (a3 : Nat) (a4 : Nat) (h0 : 0 ≤ a0 ∧ a0 ≤ 2388 ∧ a0 ≤ ((a4 : Nat) : Int)) (h1 : (0 : Int) ≤ a1) (h2 : 2147483648 - a1 < ((a3 + 1 : Nat) : Int)) (h3 : ¬ (a0 ≤ a1)) (h4 : a2 = a1 + 1 ∨ a1 + 1 < -2147483648 ∨ 2147483648 ≤ a1 + 1) (r0 : -2147483648 ≤ a0 ∧ a0 < 2147483648) (r1 : -2147483648 ≤ a1 ∧ a1 < 2147483648) (r2 : -2147483648 ≤ a2 ∧ a2 < 2147483648) : (0 : Int) ≤ a2 := by first | (clear h0 h1 h2 h3; omega) | (clear h0; omega) | omega
theorem z_X11_first_16 (a0 : Int) (a1 : Int) (a2 : Int) (a3 : Nat) (a4 : Nat) (h0 : 0 ≤ a0 ∧ a0 ≤ 2388 ∧ a0 ≤ ((a4 : Nat) : Int)) (h1 : (0 : Int) ≤ a1) (h2 : 2147483648 - a1 < ((a3 + 1 : Nat) : Int)) (h3 : ¬ (a0 ≤ a1)) (h4 : a2 = a1 + 1 ∨ a1 + 1 < -2147483648 ∨ 2147483648 ≤ a1 + 1) (r0 : -2147483648 ≤ a0 ∧ a0 < 2147483648) (r1 : -2147483648 ≤ a1 ∧ a1 < 2147483648) (r2 : -2147483648 ≤ a2 ∧ a2 < 2147483648) : 2147483648 - a2 < ((a3 : Nat) : Int) := by first | (clear h0 h1 h3; omega) | (clear h0; omega) | omega
abbrev rm_X11_first : Room := { frames := 5, cells := 0, slots := 0, locals := 125 }
set_option maxHeartbeats 4000000 in
set_option maxRecDepth 100000 in
theorem c_X11_first (l : Launch) (E : XE) (K : Nat → Nat) (F : Nat → Nat → Nat) (tl z0 z1 z2 z3 z4 z5 z6 z7 z8 z9 z10 z11 z12 z13 z14 z15 z16 z17 z18 z19 z20 : Int32) (ar0 ar1 ar2 ar3 ar4 ar5 ar6 ar7 ar8 ar9 ar10 : Nat → Int32) (a : Nat) (p0 : Int32) (ha : K a = 13) (hR : RV ar1) : Met l yX11_first (xw yX11_first cX11_first 4 (some .int)) rm_X11_first (va_Pc [.ref a, .int p0] (XP E K F (tl, [z0, z1, z2, z3, z4, z5, z6, z7, z8, z9, z10, z11, z12, z13, z14, z15, z16, z17, z18, z19, z20], [ar0, ar1, ar2, ar3, ar4, ar5, ar6, ar7, ar8, ar9, ar10]))) (XQ E (fun v (u : Int32 × Int32 × Int32 × (Nat → Int32) × (Nat → Int32) × (Nat → Int32)) => ∃ r : Int32, v = .int r) (fun u H => TW E K F (tl, [u.1, z1, z2, u.2.1, u.2.2.1, z5, z6, z7, z8, z9, z10, z11, z12, z13, z14, z15, z16, z17, z18, z19, z20], [ar0, ar1, u.2.2.2.1, u.2.2.2.2.1, u.2.2.2.2.2, ar5, ar6, ar7, ar8, ar9, ar10]) [] H)) 0 0 (xA E) := by
  refine x_enter (by decide) (Nat.le_of_ble_eq_true rfl) ?_
  intro p e s m args below meth c Q S hr hlk hnm hQ hP ls hl
  obtain ⟨hz, hK, hT⟩ := hP
  obtain ⟨hx, hb, -, -, -⟩ := id S
  obtain ⟨H, hT, hS, hgo⟩ : ∃ H : Heap, TW E K F (tl, [z0, z1, z2, z3, z4, z5, z6, z7, z8, z9, z10, z11, z12, z13, z14, z15, z16, z17, z18, z19, z20], [ar0, ar1, ar2, ar3, ar4, ar5, ar6, ar7, ar8, ar9, ar10]) [] H ∧ va_S (xA E) s.heap H [] ∧ H = s.heap := ⟨_, hT, va_S.rf, rfl⟩
  rw [← hgo]
  have hl : lv_has ls 4 [(0, .ref a), (1, .int p0)] := hl
  refine lv_aload_n hx hb dX11_first_0 rfl (lv_at hl 0 rfl) ?_
  refine lv_iconst (v := 0) hx hb dX11_first_1 (by decide) ?_
  refine pX11_0 (kq := []) (v := 0) S hK hT hS ha kf_X11_134 (Nat.le_of_ble_eq_true rfl) dX11_first_2 (fun _ h => by cases h) (fun H locs hT hS => ?_)
  have hT : TW E K F (tl, [0, z1, z2, z3, z4, z5, z6, z7, z8, z9, z10, z11, z12, z13, z14, z15, z16, z17, z18, z19, z20], [ar0, ar1, ar2, ar3, ar4, ar5, ar6, ar7, ar8, ar9, ar10]) [] H := hT
  refine lv_iload_n hx hb dX11_first_5 rfl (lv_at hl 1 rfl) ?_
  refine lv_i2l (v := p0.toInt64) hx hb dX11_first_6 rfl ?_
  refine lv_lconst (v := (0 : Int64)) hx hb dX11_first_7 (by decide) ?_
  refine lv_ldc2 (v := 3) hx hb S.2.2.2.1 (S.2.2.2.2 _ (List.mem_cons_of_mem _ kc_X11_387)) dX11_first_8 ?_
  refine x_clp (x_runS (As := [.long p0.toInt64, .long (0 : Int64), .long (3 : Int64)]) (rest := []) S (c_X11_in l E K F tl 0 z1 z2 z3 z4 z5 z6 z7 z8 z9 z10 z11 z12 z13 z14 z15 z16 z17 z18 z19 z20 ar0 ar1 ar2 ar3 ar4 ar5 ar6 ar7 ar8 ar9 ar10 H p0.toInt64 (0 : Int64) (3 : Int64) p0.toInt (0 : Int) (3 : Int) (xl_i2l (rfl : Int32.toInt p0 = p0.toInt)) (by decide) (by decide)) ms_X11_in km_X11_139 rfl rfl ⟨Nat.le_of_ble_eq_true rfl, Nat.le_of_ble_eq_true rfl⟩ hK (fun _ => XPh.blind) (fun U hU hW => XPh.at hK hz hS hT hU hW) rfl hl.1 (Nat.le_of_ble_eq_true rfl) dX11_first_11 ⟨Nat.le_of_ble_eq_true rfl, Nat.le_of_ble_eq_true rfl⟩) hS ?_
  rintro _ _ locs ⟨x1, rfl, b2, t3⟩ hS
  have t3 : (x1.toInt = 1 ∧ (0 : Int) ≤ p0.toInt ∧ p0.toInt ≤ (3 : Int)) ∨ (x1.toInt = 0 ∧ (p0.toInt < (0 : Int) ∨ (3 : Int) < p0.toInt)) := t3
  refine xi_zne (tgt := 20) hx hb (rfl : Int32.toInt x1 = x1.toInt) dX11_first_14 (by decide) (fun c4 => ?_) (fun c4 => ?_)
  · refine lv_aload_n hx hb dX11_first_20 rfl (lv_at hl 0 rfl) ?_
    refine gX11_6 S hK hT ha kf_X11_206 dX11_first_21 (v := z1) rfl ?_
    refine xi_zne (tgt := 29) hx hb (rfl : Int32.toInt z1 = z1.toInt) dX11_first_24 (by decide) (fun c5 => ?_) (fun c5 => ?_)
    · refine lv_aload_n hx hb dX11_first_29 rfl (lv_at hl 0 rfl) ?_
      refine x_cv0 (x_runV (b := a) (As := []) (rest := []) S (c_X11_findQueue l E K F tl 0 z1 z2 z3 z4 z5 z6 z7 z8 z9 z10 z11 z12 z13 z14 z15 z16 z17 z18 z19 z20 ar0 ar1 ar2 ar3 ar4 ar5 ar6 ar7 ar8 ar9 ar10 a ha hR) mv_X11_findQueue km_X11_218 rfl rfl ⟨Nat.le_of_ble_eq_true rfl, Nat.le_of_ble_eq_true rfl⟩ (rc_13 hK hT ha) hK (fun _ => XP.blind) (fun U hU hW => XP.at hK hz hS hT hU hW) rfl hl.1 (Nat.le_of_ble_eq_true rfl) dX11_first_30 ⟨Nat.le_of_ble_eq_true rfl, Nat.le_of_ble_eq_true rfl⟩) hS ?_
      rintro ⟨u6, u7, f8, f9, f10⟩ H locs t11 hT hS
      have hT : TW E K F (tl, [0, z1, z2, u6, u7, z5, z6, z7, z8, z9, z10, z11, z12, z13, z14, z15, z16, z17, z18, z19, z20], [ar0, ar1, f8, f9, f10, ar5, ar6, ar7, ar8, ar9, ar10]) [] H := hT
      have t11 : 0 ≤ u7.toInt ∧ u7.toInt ≤ 2388 ∧ u7.toInt ≤ (((fV ar1 f9 f10) : Nat) : Int) := t11
      refine lv_iconst (v := 0) hx hb dX11_first_33 (by decide) ?_
      refine lv_istore_n (lv' := [(2, .int 0), (0, .ref a), (1, .int p0)]) hx hb dX11_first_34 rfl hl (by decide) rfl (fun ls hl => ?_)
      refine lv_iconst (v := 0) hx hb dX11_first_35 (by decide) ?_
      refine lv_istore_n (lv' := [(3, .int 0), (2, .int 0), (0, .ref a), (1, .int p0)]) hx hb dX11_first_36 rfl hl (by decide) rfl (fun ls hl => ?_)
      have L37 : ∀ (N16 : Nat) (x14 : Int32) (x15 : Int32) (H : Heap) (locs : List Loc) (ls : Array Slot), (0 : Int) ≤ x15.toInt → 2147483648 - x15.toInt < ((N16 : Nat) : Int) → TW E K F (tl, [0, z1, z2, u6, u7, z5, z6, z7, z8, z9, z10, z11, z12, z13, z14, z15, z16, z17, z18, z19, z20], [ar0, ar1, f8, f9, f10, ar5, ar6, ar7, ar8, ar9, ar10]) [] H → va_S (xA E) s.heap H locs → lv_has ls 4 [(0, .ref a), (1, .int p0), (2, .int x14), (3, .int x15)] → W p l e rm_X11_first s m args below meth c H locs 0 0 Q (F0 m 37 ls []) := by
        intro N16
        induction N16 with
        | zero =>
          intro x14 x15 H locs ls hf17 hm18
          exact absurd hm18 (z_X11_first_1 x15.toInt hf17 (xr x15))
        | succ N16 ih19 =>
          intro x14 x15 H locs ls hf17 hm18 hT hS hl
          refine lv_iload_n hx hb dX11_first_37 rfl (lv_at hl 3 rfl) ?_
          refine lv_aload_n hx hb dX11_first_38 rfl (lv_at hl 0 rfl) ?_
          refine gX11_19 S hK hT ha kf_X11_203 dX11_first_39 (v := u7) rfl ?_
          refine xi_cge (tgt := 83) hx hb (rfl : Int32.toInt x15 = x15.toInt) (rfl : Int32.toInt u7 = u7.toInt) dX11_first_42 (by decide) (fun c20 => ?_) (fun c20 => ?_)
          · refine lv_aload_n hx hb dX11_first_83 rfl (lv_at hl 0 rfl) ?_
            refine x_clp (x_runV (b := a) (As := []) (rest := []) S (c_X11_firstFailing l E K F tl 0 z1 z2 u6 u7 z5 z6 z7 z8 z9 z10 z11 z12 z13 z14 z15 z16 z17 z18 z19 z20 ar0 ar1 f8 f9 f10 ar5 ar6 ar7 ar8 ar9 ar10 H a ha hR (z_X11_first_2 u7.toInt x15.toInt N16 (fV ar1 f9 f10) t11 hf17 hm18 c20 (xr u7) (xr x15))) mv_X11_firstFailing km_X11_313 rfl rfl ⟨Nat.le_of_ble_eq_true rfl, Nat.le_of_ble_eq_true rfl⟩ (rc_13 hK hT ha) hK (fun _ => XPh.blind) (fun U hU hW => XPh.at hK hz hS hT hU hW) rfl hl.1 (Nat.le_of_ble_eq_true rfl) dX11_first_84 ⟨Nat.le_of_ble_eq_true rfl, Nat.le_of_ble_eq_true rfl⟩) hS ?_
            rintro _ _ locs ⟨x22, rfl, t21⟩ hS
            have t21 : x22.toInt = -1 ∨ (0 ≤ x22.toInt ∧ x22.toInt < u7.toInt) := t21
            refine lv_istore_n (lv' := [(3, .int x22), (0, .ref a), (1, .int p0), (2, .int x14)]) hx hb dX11_first_87 rfl hl (by decide) rfl (fun ls hl => ?_)
            refine lv_iload_n hx hb dX11_first_88 rfl (lv_at hl 2 rfl) ?_
            refine lv_iconst (v := 3) hx hb dX11_first_89 (by decide) ?_
            refine xi_cne (tgt := 97) hx hb (rfl : Int32.toInt p0 = p0.toInt) ((by decide) : Int32.toInt 3 = (3 : Int)) dX11_first_90 (by decide) (fun c24 => ?_) (fun c24 => ?_)
            · refine lv_iload_n hx hb dX11_first_97 rfl (lv_at hl 0 rfl) ?_
              refine lv_iconst (v := (-1)) hx hb dX11_first_98 (by decide) ?_
              refine xi_cne (tgt := 106) hx hb (rfl : Int32.toInt x22 = x22.toInt) ((by decide) : Int32.toInt (-1) = (-1 : Int)) dX11_first_99 (by decide) (fun c25 => ?_) (fun c25 => ?_)
              · refine lv_iload_n hx hb dX11_first_106 rfl (lv_at hl 2 rfl) ?_
                refine xi_zne (tgt := 119) hx hb (rfl : Int32.toInt p0 = p0.toInt) dX11_first_107 (by decide) (fun c26 => ?_) (fun c26 => ?_)
                · refine lv_iload_n hx hb dX11_first_119 rfl (lv_at hl 2 rfl) ?_
                  refine lv_iconst (v := 1) hx hb dX11_first_120 (by decide) ?_
                  refine xi_cne (tgt := 133) hx hb (rfl : Int32.toInt p0 = p0.toInt) ((by decide) : Int32.toInt 1 = (1 : Int)) dX11_first_121 (by decide) (fun c27 => ?_) (fun c27 => ?_)
                  · refine lv_iload_n hx hb dX11_first_133 rfl (lv_at hl 0 rfl) ?_
                    exact x_ri hx hb hr hlk hQ (Nat.le_of_ble_eq_true rfl) (Nat.le_of_ble_eq_true rfl) hS dX11_first_134 (0, u6, u7, f8, f9, f10) ⟨_, rfl⟩ hT.nil
                  · refine lv_aload_n hx hb dX11_first_124 rfl (lv_at hl 1 rfl) ?_
                    refine gX11_18 S hK hT ha kf_X11_54 dX11_first_125 (fun hk28 => ?_)
                    refine lv_iload_n hx hb dX11_first_128 rfl (lv_at hl 0 rfl) ?_
                    refine tld_0 S hK hT hk28 (at_44 (f := f10) rfl) (by decide) (z_X11_first_3 u7.toInt x15.toInt x22.toInt N16 (fV ar1 f9 f10) t11 hf17 hm18 c20 t21 c25 (xr u7) (xr x15) (xr x22)) dX11_first_129 (fun x29 w30 o31 => ?_)
                    refine lv_goto (tgt := 134) hx hb dX11_first_130 (by decide) ?_
                    exact x_ri hx hb hr hlk hQ (Nat.le_of_ble_eq_true rfl) (Nat.le_of_ble_eq_true rfl) hS dX11_first_134 (0, u6, u7, f8, f9, f10) ⟨_, rfl⟩ hT.nil
                · refine lv_aload_n hx hb dX11_first_110 rfl (lv_at hl 1 rfl) ?_
                  refine gX11_17 S hK hT ha kf_X11_51 dX11_first_111 (fun hk33 => ?_)
                  refine lv_iload_n hx hb dX11_first_114 rfl (lv_at hl 0 rfl) ?_
                  refine tld_0 S hK hT hk33 (at_43 (f := f9) rfl) (by decide) (z_X11_first_4 u7.toInt x15.toInt x22.toInt N16 (fV ar1 f9 f10) t11 hf17 hm18 c20 t21 c25 (xr u7) (xr x15) (xr x22)) dX11_first_115 (fun x34 w35 o36 => ?_)
                  have v38 : 0 ≤ x34.toInt ∧ x34.toInt ≤ 11 ∧ 0 ≤ (aI ar1 (10 * x34.toInt + (0 : Int))) := fV_rule (f4 := f10) w35 (z_X11_first_5 u7.toInt x15.toInt x22.toInt N16 (fV ar1 f9 f10) t11 hf17 hm18 c20 t21 c25 (xr u7) (xr x15) (xr x22))
                  have v39 : (-1 ≤ (aI ar1 (10 * x34.toInt + (0 : Int))) ∧ (aI ar1 (10 * x34.toInt + (0 : Int))) ≤ 5) ∧ (0 ≤ (aI ar1 (10 * x34.toInt + (1 : Int))) ∧ (aI ar1 (10 * x34.toInt + (1 : Int))) ≤ 2) ∧ (0 ≤ (aI ar1 (10 * x34.toInt + (2 : Int))) ∧ (aI ar1 (10 * x34.toInt + (2 : Int))) ≤ 2) ∧ (-1 ≤ (aI ar1 (10 * x34.toInt + (3 : Int))) ∧ (aI ar1 (10 * x34.toInt + (3 : Int))) ≤ 2) ∧ ((aI ar1 (10 * x34.toInt + (0 : Int))) = 1 ∨ (aI ar1 (10 * x34.toInt + (0 : Int))) = 3 ∨ (aI ar1 (10 * x34.toInt + (0 : Int))) = 4 → 0 ≤ (aI ar1 (10 * x34.toInt + (3 : Int)))) := RV.row hR (z_X11_first_6 x34.toInt (aI ar1 (10 * x34.toInt + (0 : Int))) (aI f9 x22.toInt) w35 v38 (xr x34))
                  refine lv_goto (tgt := 134) hx hb dX11_first_116 (by decide) ?_
                  exact x_ri hx hb hr hlk hQ (Nat.le_of_ble_eq_true rfl) (Nat.le_of_ble_eq_true rfl) hS dX11_first_134 (0, u6, u7, f8, f9, f10) ⟨_, rfl⟩ hT.nil
              · refine lv_iconst (v := (-1)) hx hb dX11_first_102 (by decide) ?_
                refine lv_goto (tgt := 134) hx hb dX11_first_103 (by decide) ?_
                exact x_ri hx hb hr hlk hQ (Nat.le_of_ble_eq_true rfl) (Nat.le_of_ble_eq_true rfl) hS dX11_first_134 (0, u6, u7, f8, f9, f10) ⟨_, rfl⟩ hT.nil
            · refine lv_iload_n hx hb dX11_first_93 rfl (lv_at hl 3 rfl) ?_
              refine lv_goto (tgt := 134) hx hb dX11_first_94 (by decide) ?_
              exact x_ri hx hb hr hlk hQ (Nat.le_of_ble_eq_true rfl) (Nat.le_of_ble_eq_true rfl) hS dX11_first_134 (0, u6, u7, f8, f9, f10) ⟨_, rfl⟩ hT.nil
          · refine lv_iload_n hx hb dX11_first_45 rfl (lv_at hl 2 rfl) ?_
            refine lv_aload_n hx hb dX11_first_46 rfl (lv_at hl 0 rfl) ?_
            refine lv_aload_n hx hb dX11_first_47 rfl (lv_at hl 0 rfl) ?_
            refine gX11_17 S hK hT ha kf_X11_51 dX11_first_48 (fun hk40 => ?_)
            refine lv_iload_n hx hb dX11_first_51 rfl (lv_at hl 3 rfl) ?_
            refine tld_0 S hK hT hk40 (at_43 (f := f9) rfl) (by decide) (z_X11_first_7 u7.toInt x15.toInt N16 (fV ar1 f9 f10) t11 hf17 hm18 c20 (xr u7) (xr x15)) dX11_first_52 (fun x41 w42 o43 => ?_)
            have v45 : 0 ≤ x41.toInt ∧ x41.toInt ≤ 11 ∧ 0 ≤ (aI ar1 (10 * x41.toInt + (0 : Int))) := fV_rule (f4 := f10) w42 (z_X11_first_8 u7.toInt x15.toInt N16 (fV ar1 f9 f10) t11 hf17 hm18 c20 (xr u7) (xr x15))
            have v46 : (-1 ≤ (aI ar1 (10 * x41.toInt + (0 : Int))) ∧ (aI ar1 (10 * x41.toInt + (0 : Int))) ≤ 5) ∧ (0 ≤ (aI ar1 (10 * x41.toInt + (1 : Int))) ∧ (aI ar1 (10 * x41.toInt + (1 : Int))) ≤ 2) ∧ (0 ≤ (aI ar1 (10 * x41.toInt + (2 : Int))) ∧ (aI ar1 (10 * x41.toInt + (2 : Int))) ≤ 2) ∧ (-1 ≤ (aI ar1 (10 * x41.toInt + (3 : Int))) ∧ (aI ar1 (10 * x41.toInt + (3 : Int))) ≤ 2) ∧ ((aI ar1 (10 * x41.toInt + (0 : Int))) = 1 ∨ (aI ar1 (10 * x41.toInt + (0 : Int))) = 3 ∨ (aI ar1 (10 * x41.toInt + (0 : Int))) = 4 → 0 ≤ (aI ar1 (10 * x41.toInt + (3 : Int)))) := RV.row hR (z_X11_first_9 x41.toInt (aI ar1 (10 * x41.toInt + (0 : Int))) (aI f9 x15.toInt) w42 v45 (xr x41))
            refine lv_aload_n hx hb dX11_first_53 rfl (lv_at hl 0 rfl) ?_
            refine gX11_18 S hK hT ha kf_X11_54 dX11_first_54 (fun hk47 => ?_)
            refine lv_iload_n hx hb dX11_first_57 rfl (lv_at hl 3 rfl) ?_
            refine tld_0 S hK hT hk47 (at_44 (f := f10) rfl) (by decide) (z_X11_first_10 u7.toInt x15.toInt N16 (fV ar1 f9 f10) t11 hf17 hm18 c20 (xr u7) (xr x15)) dX11_first_58 (fun x48 w49 o50 => ?_)
            have v52 : -99 ≤ x48.toInt ∧ x48.toInt ≤ 99 ∧ (aF ar1 x41.toInt) ≤ x48.toInt ∧ x48.toInt ≤ (aL ar1 x41.toInt) := fV_sub w42 w49 (z_X11_first_11 u7.toInt x15.toInt N16 (fV ar1 f9 f10) t11 hf17 hm18 c20 (xr u7) (xr x15))
            refine lv_aload_n hx hb dX11_first_59 rfl (lv_at hl 0 rfl) ?_
            refine gX11_1 S hK hT ha kf_X11_9 dX11_first_60 (fun hk53 => ?_)
            refine lv_iconst (v := 0) hx hb dX11_first_63 (by decide) ?_
            refine x_clp (x_runV (b := a) (As := [.int x41, .int x48, .ref (F a 1), .int 0]) (rest := [.int x14]) S (c_X11_fails l E K F tl 0 z1 z2 u6 u7 z5 z6 z7 z8 z9 z10 z11 z12 z13 z14 z15 z16 z17 z18 z19 z20 ar0 ar1 f8 f9 f10 ar5 ar6 ar7 ar8 ar9 ar10 H a x41 x48 (F a 1) 0 ha (XO.a hk53 (by decide)) hR (z_X11_first_12 x41.toInt (aI ar1 (10 * x41.toInt + (0 : Int))) (aI ar1 (10 * x41.toInt + (1 : Int))) (aI ar1 (10 * x41.toInt + (2 : Int))) (aI ar1 (10 * x41.toInt + (3 : Int))) (aI f9 x15.toInt) w42 v45 v46 (xr x41)) (z_X11_first_13 x41.toInt (aI ar1 (10 * x41.toInt + (0 : Int))) (aI ar1 (10 * x41.toInt + (1 : Int))) (aI ar1 (10 * x41.toInt + (2 : Int))) (aI ar1 (10 * x41.toInt + (3 : Int))) (aI f9 x15.toInt) w42 v45 v46 (xr x41)) (z_X11_first_14 x48.toInt (aF ar1 x41.toInt) (aI f10 x15.toInt) (aL ar1 x41.toInt) w49 v52 (xr x48))) mv_X11_fails km_X11_221 rfl rfl ⟨Nat.le_of_ble_eq_true rfl, Nat.le_of_ble_eq_true rfl⟩ (rc_13 hK hT ha) hK (fun _ => XPh.blind) (fun U hU hW => XPh.at hK hz hS hT hU hW) rfl hl.1 (Nat.le_of_ble_eq_true rfl) dX11_first_64 ⟨Nat.le_of_ble_eq_true rfl, Nat.le_of_ble_eq_true rfl⟩) hS ?_
            rintro _ _ locs ⟨x54, rfl, b55⟩ hS
            have J75 : ∀ (x56 : Int32) (H : Heap) (locs : List Loc) (ls : Array Slot), TW E K F (tl, [0, z1, z2, u6, u7, z5, z6, z7, z8, z9, z10, z11, z12, z13, z14, z15, z16, z17, z18, z19, z20], [ar0, ar1, f8, f9, f10, ar5, ar6, ar7, ar8, ar9, ar10]) [] H → va_S (xA E) s.heap H locs → lv_has ls 4 [(0, .ref a), (1, .int p0), (3, .int x15)] → W p l e rm_X11_first s m args below meth c H locs 0 0 Q (F0 m 75 ls [.int x56, .int x14]) := by
              intro x56 H locs ls hT hS hl
              refine xi_iadd hx hb (rfl : Int32.toInt x14 = x14.toInt) (rfl : Int32.toInt x56 = x56.toInt) dX11_first_75 (fun x57 t58 => ?_)
              refine lv_istore_n (lv' := [(2, .int x57), (0, .ref a), (1, .int p0), (3, .int x15)]) hx hb dX11_first_76 rfl hl (by decide) rfl (fun ls hl => ?_)
              refine xi_iinc (n := 1) (lv' := fun z9 => [(3, .int z9), (2, .int x57), (0, .ref a), (1, .int p0)]) (k := 3) hx hb (rfl : Int32.toInt x15 = x15.toInt) (by decide) dX11_first_77 hl rfl (by decide) (fun _ => rfl) (fun x59 ls t60 hl => ?_)
              have hl : lv_has ls 4 [(3, .int x59), (2, .int x57), (0, .ref a), (1, .int p0)] := hl
              refine lv_goto (tgt := 37) hx hb dX11_first_80 (by decide) ?_
              exact ih19 x57 x59 _ _ _ (z_X11_first_15 u7.toInt x15.toInt x59.toInt N16 (fV ar1 f9 f10) t11 hf17 hm18 c20 t60 (xr u7) (xr x15) (xr x59)) (z_X11_first_16 u7.toInt x15.toInt x59.toInt N16 (fV ar1 f9 f10) t11 hf17 hm18 c20 t60 (xr u7) (xr x15) (xr x59)) hT.nil hS (lv_sub hl [2, 3, 1, 0] rfl)
            refine xi_zeq (tgt := 74) hx hb (rfl : Int32.toInt x54 = x54.toInt) dX11_first_67 (by decide) (fun c61 => ?_) (fun c61 => ?_)
            · refine lv_iconst (v := 0) hx hb dX11_first_74 (by decide) ?_
              exact J75 0 _ _ _ hT.nil hS (lv_sub hl [0, 1, 3] rfl)
            · refine lv_iconst (v := 1) hx hb dX11_first_70 (by decide) ?_
              refine lv_goto (tgt := 75) hx hb dX11_first_71 (by decide) ?_
              exact J75 1 _ _ _ hT.nil hS (lv_sub hl [0, 1, 3] rfl)
      exact L37 4294967297 0 0 _ _ _ (by decide) (by decide) hT.nil hS (lv_sub hl [2, 3, 1, 0] rfl)
    · refine lv_iconst (v := (-1)) hx hb dX11_first_27 (by decide) ?_
      exact x_ri hx hb hr hlk hQ (Nat.le_of_ble_eq_true rfl) (Nat.le_of_ble_eq_true rfl) hS dX11_first_28 (0, z3, z4, ar2, ar3, ar4) ⟨_, rfl⟩ hT.nil
  · refine lv_ldc (v := (-2147483648)) hx hb S.2.2.2.1 (S.2.2.2.2 _ (List.mem_cons_of_mem _ kc_X11_57)) dX11_first_17 ?_
    exact x_ri hx hb hr hlk hQ (Nat.le_of_ble_eq_true rfl) (Nat.le_of_ble_eq_true rfl) hS dX11_first_19 (0, z3, z4, ar2, ar3, ar4) ⟨_, rfl⟩ hT.nil
