theorem z_X11_drop_1 (a0 : Int) (a1 : Int) (a2 : Int) (a3 : Int) (h0 : a2 = 0 ∨ (a2 = 1 ∧ 0 ≤ a0 ∧ a0 ≤ 11 ∧ 0 ≤ a3)) (h1 : a2 = 0 ∨ a2 = 1) (h2 : a2 ≠ 0) (h3 : a1 = (10 : Int) * a0 ∨ (10 : Int) * a0 < -2147483648 ∨ 2147483648 ≤ (10 : Int) * a0) (r0 : -2147483648 ≤ a0 ∧ a0 < 2147483648) (r1 : -2147483648 ≤ a1 ∧ a1 < 2147483648) (r2 : -2147483648 ≤ a2 ∧ a2 < 2147483648) : 0 ≤ a1 ∧ a1 < ((120 : Nat) : Int) := by first | (clear h0 h1 h2; omega) | (clear h1 h2; omega) | omega
theorem z_X11_drop_2 (a0 : Int) (a1 : Int) (a2 : Int) (a3 : Int) (h0 : a2 = 0 ∨ (a2 = 1 ∧ 0 ≤ a0 ∧ a0 ≤ 11 ∧ 0 ≤ a3)) (h1 : a2 = 0 ∨ a2 = 1) (h2 : a2 ≠ 0) (h3 : a1 = (10 : Int) * a0 ∨ (10 : Int) * a0 < -2147483648 ∨ 2147483648 ≤ (10 : Int) * a0) (r0 : -2147483648 ≤ a0 ∧ a0 < 2147483648) (r1 : -2147483648 ≤ a1 ∧ a1 < 2147483648) (r2 : -2147483648 ≤ a2 ∧ a2 < 2147483648) : 0 ≤ 10 * a0 + (0 : Int) := by first | (clear h1 h2; omega) | omega
theorem z_X11_drop_3 (a0 : Int) (a1 : Int) (a2 : Int) (a3 : Int) (h0 : a2 = 0 ∨ (a2 = 1 ∧ 0 ≤ a0 ∧ a0 ≤ 11 ∧ 0 ≤ a3)) (h1 : a2 = 0 ∨ a2 = 1) (h2 : a2 ≠ 0) (h3 : a1 = (10 : Int) * a0 ∨ (10 : Int) * a0 < -2147483648 ∨ 2147483648 ≤ (10 : Int) * a0) (r0 : -2147483648 ≤ a0 ∧ a0 < 2147483648) (r1 : -2147483648 ≤ a1 ∧ a1 < 2147483648) (r2 : -2147483648 ≤ a2 ∧ a2 < 2147483648) : 10 * a0 + (0 : Int) = a1 := by first | (clear h1 h2; omega) | omega
theorem z_X11_drop_4 (a0 : Int) (a1 : Int) (a2 : Int) (a3 : Int) (h0 : a2 = 0 ∨ (a2 = 1 ∧ 0 ≤ a0 ∧ a0 ≤ 11 ∧ 0 ≤ a3)) (h1 : a2 = 0 ∨ a2 = 1) (h2 : a2 ≠ 0) (h3 : a1 = (10 : Int) * a0 ∨ (10 : Int) * a0 < -2147483648 ∨ 2147483648 ≤ (10 : Int) * a0) (r0 : -2147483648 ≤ a0 ∧ a0 < 2147483648) (r1 : -2147483648 ≤ a1 ∧ a1 < 2147483648) (r2 : -2147483648 ≤ a2 ∧ a2 < 2147483648) : 0 ≤ 10 * a0 + (1 : Int) := by first | (clear h1 h2; omega) | omega
theorem z_X11_drop_5 (a0 : Int) (a1 : Int) (a2 : Int) (a3 : Int) (h0 : a2 = 0 ∨ (a2 = 1 ∧ 0 ≤ a0 ∧ a0 ≤ 11 ∧ 0 ≤ a3)) (h1 : a2 = 0 ∨ a2 = 1) (h2 : a2 ≠ 0) (h3 : a1 = (10 : Int) * a0 ∨ (10 : Int) * a0 < -2147483648 ∨ 2147483648 ≤ (10 : Int) * a0) (r0 : -2147483648 ≤ a0 ∧ a0 < 2147483648) (r1 : -2147483648 ≤ a1 ∧ a1 < 2147483648) (r2 : -2147483648 ≤ a2 ∧ a2 < 2147483648) : 10 * a0 + (1 : Int) ≠ a1 := by first | (clear h1 h2; omega) | omega
theorem z_X11_drop_6 (a0 : Int) (a1 : Int) (a2 : Int) (a3 : Int) (h0 : a2 = 0 ∨ (a2 = 1 ∧ 0 ≤ a0 ∧ a0 ≤ 11 ∧ 0 ≤ a3)) (h1 : a2 = 0 ∨ a2 = 1) (h2 : a2 ≠ 0) (h3 : a1 = (10 : Int) * a0 ∨ (10 : Int) * a0 < -2147483648 ∨ 2147483648 ≤ (10 : Int) * a0) (r0 : -2147483648 ≤ a0 ∧ a0 < 2147483648) (r1 : -2147483648 ≤ a1 ∧ a1 < 2147483648) (r2 : -2147483648 ≤ a2 ∧ a2 < 2147483648) : 0 ≤ 10 * a0 + (2 : Int) := by first | (clear h1 h2; omega) | omega
theorem z_X11_drop_7 (a0 : Int) (a1 : Int) (a2 : Int) (a3 : Int) (h0 : a2 = 0 ∨ (a2 = 1 ∧ 0 ≤ a0 ∧ a0 ≤ 11 ∧ 0 ≤ a3)) (h1 : a2 = 0 ∨ a2 = 1) (h2 : a2 ≠ 0) (h3 : a1 = (10 : Int) * a0 ∨ (10 : Int) * a0 < -2147483648 ∨ 2147483648 ≤ (10 : Int) * a0) (r0 : -2147483648 ≤ a0 ∧ a0 < 2147483648) (r1 : -2147483648 ≤ a1 ∧ a1 < 2147483648) (r2 : -2147483648 ≤ a2 ∧ a2 < 2147483648) : 10 * a0 + (2 : Int) ≠ a1 := by first | (clear h1 h2; omega) | omega
theorem z_X11_drop_8 (a0 : Int) (a1 : Int) (a2 : Int) (a3 : Int) (h0 : a2 = 0 ∨ (a2 = 1 ∧ 0 ≤ a0 ∧ a0 ≤ 11 ∧ 0 ≤ a3)) (h1 : a2 = 0 ∨ a2 = 1) (h2 : a2 ≠ 0) (h3 : a1 = (10 : Int) * a0 ∨ (10 : Int) * a0 < -2147483648 ∨ 2147483648 ≤ (10 : Int) * a0) (r0 : -2147483648 ≤ a0 ∧ a0 < 2147483648) (r1 : -2147483648 ≤ a1 ∧ a1 < 2147483648) (r2 : -2147483648 ≤ a2 ∧ a2 < 2147483648) : 0 ≤ 10 * a0 + (3 : Int) := by first | (clear h1 h2; omega) | omega
theorem z_X11_drop_9 (a0 : Int) (a1 : Int) (a2 : Int) (a3 : Int) (h0 : a2 = 0 ∨ (a2 = 1 ∧ 0 ≤ a0 ∧ a0 ≤ 11 ∧ 0 ≤ a3)) (h1 : a2 = 0 ∨ a2 = 1) (h2 : a2 ≠ 0) (h3 : a1 = (10 : Int) * a0 ∨ (10 : Int) * a0 < -2147483648 ∨ 2147483648 ≤ (10 : Int) * a0) (r0 : -2147483648 ≤ a0 ∧ a0 < 2147483648) (r1 : -2147483648 ≤ a1 ∧ a1 < 2147483648) (r2 : -2147483648 ≤ a2 ∧ a2 < 2147483648) : 10 * a0 + (3 : Int) ≠ a1 := by first | (clear h1 h2; omega) | omega
theorem z_X11_drop_10 (a0 : Int) (a1 : Int) (a2 : Int) (a3 : Int) (h0 : a2 = 0 ∨ (a2 = 1 ∧ 0 ≤ a0 ∧ a0 ≤ 11 ∧ 0 ≤ a3)) (h1 : a2 = 0 ∨ a2 = 1) (h2 : a2 ≠ 0) (h3 : a1 = (10 : Int) * a0 ∨ (10 : Int) * a0 < -2147483648 ∨ 2147483648 ≤ (10 : Int) * a0) (r0 : -2147483648 ≤ a0 ∧ a0 < 2147483648) (r1 : -2147483648 ≤ a1 ∧ a1 < 2147483648) (r2 : -2147483648 ≤ a2 ∧ a2 < 2147483648) : 0 ≤ a0 ∧ a0 ≤ 11 := by first | (clear h1 h2; omega) | omega
theorem z_X11_drop_11 (a0 : Int) (a1 : Int) (a2 : Int) (a3 : Int) (h0 : a2 = 0 ∨ (a2 = 1 ∧ 0 ≤ a0 ∧ a0 ≤ 11 ∧ 0 ≤ a3)) (h1 : a2 = 0 ∨ a2 = 1) (h2 : a2 ≠ 0) (h3 : a1 = (10 : Int) * a0 ∨ (10 : Int) * a0 < -2147483648 ∨ 2147483648 ≤ (10 : Int) * a0) (r0 : -2147483648 ≤ a0 ∧ a0 < 2147483648) (r1 : -2147483648 ≤ a1 ∧ a1 < 2147483648) (r2 : -2147483648 ≤ a2 ∧ a2 < 2147483648) : 10 * a0 ≤ a1 ∧ a1 ≤ 10 * a0 + 9 := by first | (clear h1 h2; omega) | omega
theorem z_X11_drop_12 (a0 : Int) (a1 : Int) (a2 : Int) (a3 : Int) (a4 : Int) (a5 : Int) (a6 : Int) (h0 : a3 = (-1 : Int)) (h1 : a4 = a0) (h2 : a5 = a1) (h3 : a6 = a2) : (-1 ≤ a3 ∧ a3 ≤ 5) ∧ (0 ≤ a4 ∧ a4 ≤ 2) ∧ (0 ≤ a5 ∧ a5 ≤ 2) ∧ (-1 ≤ a6 ∧ a6 ≤ 2) ∧ (a3 = 1 ∨ a3 = 3 ∨ a3 = 4 → 0 ≤ a6) := by omega
theorem z_X11_drop_13 (a0 : Int) (h0 : a0 = 0) (r0 : -2147483648 ≤ a0 ∧ a0 < 2147483648) : 0 ≤ a0 ∧ a0 ≤ 24 := by omega
theorem z_X11_drop_14 (a0 : Int) (h0 : a0 = 0) (r0 : -2147483648 ≤ a0 ∧ a0 < 2147483648) : 0 ≤ a0 ∧ a0 ≤ 24 := by omega
theorem z_X11_drop_15 (a0 : Int) (h0 : a0 = 0) (r0 : -2147483648 ≤ a0 ∧ a0 < 2147483648) : 0 ≤ a0 ∧ a0 ≤ 24 := by omega
abbrev rm_X11_drop : Room := { frames := 3, cells := 0, slots := 0, locals := 68 }
set_option maxHeartbeats 4000000 in
set_option maxRecDepth 100000 in
theorem c_X11_drop (l : Launch) (E : XE) (K : Nat → Nat) (F : Nat → Nat → Nat) (tl z0 z1 z2 z3 z4 z5 z6 z7 z8 z9 z10 z11 z12 z13 z14 z15 z16 z17 z18 z19 z20 : Int32) (ar0 ar1 ar2 ar3 ar4 ar5 ar6 ar7 ar8 ar9 ar10 : Nat → Int32) (a : Nat) (p0 : Int32) (ha : K a = 13) (hR : RV ar1) : Met l yX11_drop (xw yX11_drop cX11_drop 2 (some .int)) rm_X11_drop (va_Pc [.ref a, .int p0] (XP E K F (tl, [z0, z1, z2, z3, z4, z5, z6, z7, z8, z9, z10, z11, z12, z13, z14, z15, z16, z17, z18, z19, z20], [ar0, ar1, ar2, ar3, ar4, ar5, ar6, ar7, ar8, ar9, ar10]))) (XQ E (fun v (u : Int32 × Int32 × Int32 × Int32 × (Nat → Int32)) => ∃ r : Int32, v = .int r ∧ (0 ≤ u.2.2.2.1.toInt ∧ u.2.2.2.1.toInt ≤ 24) ∧ (RV u.2.2.2.2)) (fun u H => TW E K F (tl, [u.1, z1, z2, z3, z4, u.2.1, u.2.2.1, u.2.2.2.1, z8, z9, z10, z11, z12, z13, z14, z15, z16, z17, z18, z19, z20], [ar0, u.2.2.2.2, ar2, ar3, ar4, ar5, ar6, ar7, ar8, ar9, ar10]) [] H)) 0 0 (xA E) := by
  refine x_enter (by decide) (Nat.le_of_ble_eq_true rfl) ?_
  intro p e s m args below meth c Q S hr hlk hnm hQ hP ls hl
  obtain ⟨hz, hK, hT⟩ := hP
  obtain ⟨hx, hb, -, -, -⟩ := id S
  obtain ⟨H, hT, hS, hgo⟩ : ∃ H : Heap, TW E K F (tl, [z0, z1, z2, z3, z4, z5, z6, z7, z8, z9, z10, z11, z12, z13, z14, z15, z16, z17, z18, z19, z20], [ar0, ar1, ar2, ar3, ar4, ar5, ar6, ar7, ar8, ar9, ar10]) [] H ∧ va_S (xA E) s.heap H [] ∧ H = s.heap := ⟨_, hT, va_S.rf, rfl⟩
  rw [← hgo]
  have hl : lv_has ls 2 [(0, .ref a), (1, .int p0)] := hl
  refine lv_aload_n hx hb dX11_drop_0 rfl (lv_at hl 0 rfl) ?_
  refine lv_iconst (v := 0) hx hb dX11_drop_1 (by decide) ?_
  refine pX11_0 (kq := []) (v := 0) S hK hT hS ha kf_X11_134 (Nat.le_of_ble_eq_true rfl) dX11_drop_2 (fun _ h => by cases h) (fun H locs hT hS => ?_)
  have hT : TW E K F (tl, [0, z1, z2, z3, z4, z5, z6, z7, z8, z9, z10, z11, z12, z13, z14, z15, z16, z17, z18, z19, z20], [ar0, ar1, ar2, ar3, ar4, ar5, ar6, ar7, ar8, ar9, ar10]) [] H := hT
  refine lv_aload_n hx hb dX11_drop_5 rfl (lv_at hl 0 rfl) ?_
  refine x_cv0 (x_runV (b := a) (As := []) (rest := []) S (c_X11_nothing l E K F tl 0 z1 z2 z3 z4 z5 z6 z7 z8 z9 z10 z11 z12 z13 z14 z15 z16 z17 z18 z19 z20 ar0 ar1 ar2 ar3 ar4 ar5 ar6 ar7 ar8 ar9 ar10 a ha) mv_X11_nothing km_X11_231 rfl rfl ⟨Nat.le_of_ble_eq_true rfl, Nat.le_of_ble_eq_true rfl⟩ (rc_13 hK hT ha) hK (fun _ => XP.blind) (fun U hU hW => XP.at hK hz hS hT hU hW) rfl hl.1 (Nat.le_of_ble_eq_true rfl) dX11_drop_6 ⟨Nat.le_of_ble_eq_true rfl, Nat.le_of_ble_eq_true rfl⟩) hS ?_
  rintro ⟨u1, u2, u3⟩ H locs t4 hT hS
  have hT : TW E K F (tl, [0, z1, z2, z3, z4, u1, u2, u3, z8, z9, z10, z11, z12, z13, z14, z15, z16, z17, z18, z19, z20], [ar0, ar1, ar2, ar3, ar4, ar5, ar6, ar7, ar8, ar9, ar10]) [] H := hT
  have t4 : u3.toInt = 0 := t4
  refine lv_aload_n hx hb dX11_drop_9 rfl (lv_at hl 0 rfl) ?_
  refine lv_iload_n hx hb dX11_drop_10 rfl (lv_at hl 1 rfl) ?_
  refine x_clp (x_runV (b := a) (As := [.int p0]) (rest := []) S (c_X11_isRule l E K F tl 0 z1 z2 z3 z4 u1 u2 u3 z8 z9 z10 z11 z12 z13 z14 z15 z16 z17 z18 z19 z20 ar0 ar1 ar2 ar3 ar4 ar5 ar6 ar7 ar8 ar9 ar10 H a p0 ha hR) mv_X11_isRule km_X11_162 rfl rfl ⟨Nat.le_of_ble_eq_true rfl, Nat.le_of_ble_eq_true rfl⟩ (rc_13 hK hT ha) hK (fun _ => XPh.blind) (fun U hU hW => XPh.at hK hz hS hT hU hW) rfl hl.1 (Nat.le_of_ble_eq_true rfl) dX11_drop_11 ⟨Nat.le_of_ble_eq_true rfl, Nat.le_of_ble_eq_true rfl⟩) hS ?_
  rintro _ _ locs ⟨x8, rfl, b9, t7⟩ hS
  have t7 : x8.toInt = 0 ∨ (x8.toInt = 1 ∧ 0 ≤ p0.toInt ∧ p0.toInt ≤ 11 ∧ 0 ≤ (aI ar1 (10 * p0.toInt + (0 : Int)))) := t7
  refine xi_zne (tgt := 20) hx hb (rfl : Int32.toInt x8 = x8.toInt) dX11_drop_14 (by decide) (fun c10 => ?_) (fun c10 => ?_)
  · refine lv_aload_n hx hb dX11_drop_20 rfl (lv_at hl 0 rfl) ?_
    refine gX11_6 S hK hT ha kf_X11_206 dX11_drop_21 (v := z1) rfl ?_
    refine xi_zeq (tgt := 30) hx hb (rfl : Int32.toInt z1 = z1.toInt) dX11_drop_24 (by decide) (fun c11 => ?_) (fun c11 => ?_)
    · refine lv_aload_n hx hb dX11_drop_30 rfl (lv_at hl 0 rfl) ?_
      refine gX11_10 S hK hT ha kf_X11_33 dX11_drop_31 (fun hk12 => ?_)
      refine lv_bipush (v := 10) hx hb dX11_drop_34 (by decide) ?_
      refine lv_iload_n hx hb dX11_drop_36 rfl (lv_at hl 1 rfl) ?_
      refine xi_imul hx hb ((by decide) : Int32.toInt 10 = (10 : Int)) (rfl : Int32.toInt p0 = p0.toInt) dX11_drop_37 (fun x13 t14 => ?_)
      refine lv_iconst (v := (-1)) hx hb dX11_drop_38 (by decide) ?_
      refine tst_0 S hK hT hS hk12 (at_37 (f := ar1) rfl) (fun _ => bt_37 (Nat.le_of_ble_eq_true rfl)) (by decide) (by decide) xti_37 (z_X11_drop_1 p0.toInt x13.toInt x8.toInt (aI ar1 (10 * p0.toInt + (0 : Int))) t7 (xbz b9) c10 t14 (xr p0) (xr x13) (xr x8)) dX11_drop_39 (fun f15 H locs hu16 hT hS => ?_)
      have hT : TW E K F (tl, [0, z1, z2, z3, z4, u1, u2, u3, z8, z9, z10, z11, z12, z13, z14, z15, z16, z17, z18, z19, z20], [ar0, f15, ar2, ar3, ar4, ar5, ar6, ar7, ar8, ar9, ar10]) [] H := hT
      have hu16 : ∀ z : Int, 0 ≤ z → aI f15 z = if z = x13.toInt then (-1 : Int) else aI ar1 z := fun z h9 => by have h8 := hu16 z h9; rw [show Int32.toInt (-1) = (-1 : Int) from by decide] at h8; exact h8
      have v17 : (aI f15 (10 * p0.toInt + (0 : Int))) = (-1 : Int) := (put_at hu16 (10 * p0.toInt + (0 : Int)) (z_X11_drop_2 p0.toInt x13.toInt x8.toInt (aI ar1 (10 * p0.toInt + (0 : Int))) t7 (xbz b9) c10 t14 (xr p0) (xr x13) (xr x8))).1 (z_X11_drop_3 p0.toInt x13.toInt x8.toInt (aI ar1 (10 * p0.toInt + (0 : Int))) t7 (xbz b9) c10 t14 (xr p0) (xr x13) (xr x8))
      have v18 : (aI f15 (10 * p0.toInt + (1 : Int))) = (aI ar1 (10 * p0.toInt + (1 : Int))) := (put_at hu16 (10 * p0.toInt + (1 : Int)) (z_X11_drop_4 p0.toInt x13.toInt x8.toInt (aI ar1 (10 * p0.toInt + (0 : Int))) t7 (xbz b9) c10 t14 (xr p0) (xr x13) (xr x8))).2 (z_X11_drop_5 p0.toInt x13.toInt x8.toInt (aI ar1 (10 * p0.toInt + (0 : Int))) t7 (xbz b9) c10 t14 (xr p0) (xr x13) (xr x8))
      have v19 : (aI f15 (10 * p0.toInt + (2 : Int))) = (aI ar1 (10 * p0.toInt + (2 : Int))) := (put_at hu16 (10 * p0.toInt + (2 : Int)) (z_X11_drop_6 p0.toInt x13.toInt x8.toInt (aI ar1 (10 * p0.toInt + (0 : Int))) t7 (xbz b9) c10 t14 (xr p0) (xr x13) (xr x8))).2 (z_X11_drop_7 p0.toInt x13.toInt x8.toInt (aI ar1 (10 * p0.toInt + (0 : Int))) t7 (xbz b9) c10 t14 (xr p0) (xr x13) (xr x8))
      have v20 : (aI f15 (10 * p0.toInt + (3 : Int))) = (aI ar1 (10 * p0.toInt + (3 : Int))) := (put_at hu16 (10 * p0.toInt + (3 : Int)) (z_X11_drop_8 p0.toInt x13.toInt x8.toInt (aI ar1 (10 * p0.toInt + (0 : Int))) t7 (xbz b9) c10 t14 (xr p0) (xr x13) (xr x8))).2 (z_X11_drop_9 p0.toInt x13.toInt x8.toInt (aI ar1 (10 * p0.toInt + (0 : Int))) t7 (xbz b9) c10 t14 (xr p0) (xr x13) (xr x8))
      have hX : RVx f15 p0.toInt := RVx.put (RV.x hR p0.toInt) (z_X11_drop_10 p0.toInt x13.toInt x8.toInt (aI ar1 (10 * p0.toInt + (0 : Int))) t7 (xbz b9) c10 t14 (xr p0) (xr x13) (xr x8)) (z_X11_drop_11 p0.toInt x13.toInt x8.toInt (aI ar1 (10 * p0.toInt + (0 : Int))) t7 (xbz b9) c10 t14 (xr p0) (xr x13) (xr x8)) hu16
      have hR : RV f15 := RVx.all hX (z_X11_drop_12 (aI ar1 (10 * p0.toInt + (1 : Int))) (aI ar1 (10 * p0.toInt + (2 : Int))) (aI ar1 (10 * p0.toInt + (3 : Int))) (aI f15 (10 * p0.toInt + (0 : Int))) (aI f15 (10 * p0.toInt + (1 : Int))) (aI f15 (10 * p0.toInt + (2 : Int))) (aI f15 (10 * p0.toInt + (3 : Int))) v17 v18 v19 v20)
      refine lv_aload_n hx hb dX11_drop_40 rfl (lv_at hl 0 rfl) ?_
      refine x_clp (x_runV (b := a) (As := []) (rest := []) S (c_X11_ruleMany l E K F tl 0 z1 z2 z3 z4 u1 u2 u3 z8 z9 z10 z11 z12 z13 z14 z15 z16 z17 z18 z19 z20 ar0 f15 ar2 ar3 ar4 ar5 ar6 ar7 ar8 ar9 ar10 H a ha hR) mv_X11_ruleMany km_X11_303 rfl rfl ⟨Nat.le_of_ble_eq_true rfl, Nat.le_of_ble_eq_true rfl⟩ (rc_13 hK hT ha) hK (fun _ => XPh.blind) (fun U hU hW => XPh.at hK hz hS hT hU hW) rfl hl.1 (Nat.le_of_ble_eq_true rfl) dX11_drop_41 ⟨Nat.le_of_ble_eq_true rfl, Nat.le_of_ble_eq_true rfl⟩) hS ?_
      rintro _ _ locs ⟨x21, rfl⟩ hS
      exact x_ri hx hb hr hlk hQ (Nat.le_of_ble_eq_true rfl) (Nat.le_of_ble_eq_true rfl) hS dX11_drop_44 (0, u1, u2, u3, f15) ⟨_, rfl, (z_X11_drop_13 u3.toInt t4 (xr u3)), hR⟩ hT.nil
    · refine lv_bipush (v := (-3)) hx hb dX11_drop_27 (by decide) ?_
      exact x_ri hx hb hr hlk hQ (Nat.le_of_ble_eq_true rfl) (Nat.le_of_ble_eq_true rfl) hS dX11_drop_29 (0, u1, u2, u3, ar1) ⟨_, rfl, (z_X11_drop_14 u3.toInt t4 (xr u3)), hR⟩ hT.nil
  · refine lv_bipush (v := (-2)) hx hb dX11_drop_17 (by decide) ?_
    exact x_ri hx hb hr hlk hQ (Nat.le_of_ble_eq_true rfl) (Nat.le_of_ble_eq_true rfl) hS dX11_drop_19 (0, u1, u2, u3, ar1) ⟨_, rfl, (z_X11_drop_15 u3.toInt t4 (xr u3)), hR⟩ hT.nil

theorem z_X11_inQueue_1 (a0 : Int) (h0 : (0 : Int) ≤ a0) (r0 : -2147483648 ≤ a0 ∧ a0 < 2147483648) : ¬ (2147483648 - a0 < ((0 : Nat) : Int)) := by omega
theorem z_X11_inQueue_2 (a0 : Int) (a1 : Int) (a2 : Nat) (a3 : Nat) (h0 : 0 ≤ a0 ∧ a0 ≤ 2388 ∧ a0 ≤ ((a3 : Nat) : Int)) (h1 : (0 : Int) ≤ a1) (h2 : 2147483648 - a1 < ((a2 + 1 : Nat) : Int)) (h3 : a0 ≤ a1) (r0 : -2147483648 ≤ a0 ∧ a0 < 2147483648) (r1 : -2147483648 ≤ a1 ∧ a1 < 2147483648) : 0 ≤ a0 ∧ a0 ≤ 2388 ∧ a0 ≤ ((a3 : Nat) : Int) := by omega
theorem z_X11_inQueue_3 (a0 : Int) (a1 : Int) (a2 : Nat) (a3 : Nat) (h0 : 0 ≤ a0 ∧ a0 ≤ 2388 ∧ a0 ≤ ((a3 : Nat) : Int)) (h1 : (0 : Int) ≤ a1) (h2 : 2147483648 - a1 < ((a2 + 1 : Nat) : Int)) (h3 : ¬ (a0 ≤ a1)) (r0 : -2147483648 ≤ a0 ∧ a0 < 2147483648) (r1 : -2147483648 ≤ a1 ∧ a1 < 2147483648) : 0 ≤ a1 ∧ a1 < ((2400 : Nat) : Int) := by omega
theorem z_X11_inQueue_4 (a0 : Int) (a1 : Int) (a2 : Nat) (a3 : Nat) (h0 : 0 ≤ a0 ∧ a0 ≤ 2388 ∧ a0 ≤ ((a3 : Nat) : Int)) (h1 : (0 : Int) ≤ a1) (h2 : 2147483648 - a1 < ((a2 + 1 : Nat) : Int)) (h3 : ¬ (a0 ≤ a1)) (r0 : -2147483648 ≤ a0 ∧ a0 < 2147483648) (r1 : -2147483648 ≤ a1 ∧ a1 < 2147483648) : 0 ≤ a1 ∧ a1 < ((a3 : Nat) : Int) := by omega
theorem z_X11_inQueue_5 (a0 : Int) (a1 : Int) (a2 : Int) (h0 : a0 = a2) (h1 : 0 ≤ a0 ∧ a0 ≤ 11 ∧ 0 ≤ a1) (r0 : -2147483648 ≤ a0 ∧ a0 < 2147483648) : 0 ≤ a0 ∧ a0 ≤ 11 := by omega
theorem z_X11_inQueue_6 (a0 : Int) (a1 : Int) (a2 : Int) (a3 : Nat) (a4 : Nat) (h0 : 0 ≤ a0 ∧ a0 ≤ 2388 ∧ a0 ≤ ((a4 : Nat) : Int)) (h1 : (0 : Int) ≤ a1) (h2 : 2147483648 - a1 < ((a3 + 1 : Nat) : Int)) (h3 : ¬ (a0 ≤ a1)) (h4 : a2 = a1 + 1 ∨ a1 + 1 < -2147483648 ∨ 2147483648 ≤ a1 + 1) (r0 : -2147483648 ≤ a0 ∧ a0 < 2147483648) (r1 : -2147483648 ≤ a1 ∧ a1 < 2147483648) (r2 : -2147483648 ≤ a2 ∧ a2 < 2147483648) : (0 : Int) ≤ a2 := by omega
theorem z_X11_inQueue_7 (a0 : Int) (a1 : Int) (a2 : Int) (a3 : Nat) (a4 : Nat) (h0 : 0 ≤ a0 ∧ a0 ≤ 2388 ∧ a0 ≤ ((a4 : Nat) : Int)) (h1 : (0 : Int) ≤ a1) (h2 : 2147483648 - a1 < ((a3 + 1 : Nat) : Int)) (h3 : ¬ (a0 ≤ a1)) (h4 : a2 = a1 + 1 ∨ a1 + 1 < -2147483648 ∨ 2147483648 ≤ a1 + 1) (r0 : -2147483648 ≤ a0 ∧ a0 < 2147483648) (r1 : -2147483648 ≤ a1 ∧ a1 < 2147483648) (r2 : -2147483648 ≤ a2 ∧ a2 < 2147483648) : 2147483648 - a2 < ((a3 : Nat) : Int) := by omega
abbrev rm_X11_inQueue : Room := { frames := 5, cells := 0, slots := 0, locals := 122 }
set_option maxHeartbeats 4000000 in
set_option maxRecDepth 100000 in
theorem c_X11_inQueue (l : Launch) (E : XE) (K : Nat → Nat) (F : Nat → Nat → Nat) (tl z0 z1 z2 z3 z4 z5 z6 z7 z8 z9 z10 z11 z12 z13 z14 z15 z16 z17 z18 z19 z20 : Int32) (ar0 ar1 ar2 ar3 ar4 ar5 ar6 ar7 ar8 ar9 ar10 : Nat → Int32) (a : Nat) (p0 : Int32) (ha : K a = 13) (hR : RV ar1) : Met l yX11_inQueue (xw yX11_inQueue cX11_inQueue 4 (some .int)) rm_X11_inQueue (va_Pc [.ref a, .int p0] (XP E K F (tl, [z0, z1, z2, z3, z4, z5, z6, z7, z8, z9, z10, z11, z12, z13, z14, z15, z16, z17, z18, z19, z20], [ar0, ar1, ar2, ar3, ar4, ar5, ar6, ar7, ar8, ar9, ar10]))) (XQ E (fun v (u : Int32 × Int32 × (Nat → Int32) × (Nat → Int32) × (Nat → Int32)) => ∃ r : Int32, v = .int r ∧ (0 ≤ u.2.1.toInt ∧ u.2.1.toInt ≤ 2388 ∧ u.2.1.toInt ≤ (((fV ar1 u.2.2.2.1 u.2.2.2.2) : Nat) : Int))) (fun u H => TW E K F (tl, [z0, z1, z2, u.1, u.2.1, z5, z6, z7, z8, z9, z10, z11, z12, z13, z14, z15, z16, z17, z18, z19, z20], [ar0, ar1, u.2.2.1, u.2.2.2.1, u.2.2.2.2, ar5, ar6, ar7, ar8, ar9, ar10]) [] H)) 0 0 (xA E) := by
  refine x_enter (by decide) (Nat.le_of_ble_eq_true rfl) ?_
  intro p e s m args below meth c Q S hr hlk hnm hQ hP ls hl
  obtain ⟨hz, hK, hT⟩ := hP
  obtain ⟨hx, hb, -, -, -⟩ := id S
  obtain ⟨H, hT, hS, hgo⟩ : ∃ H : Heap, TW E K F (tl, [z0, z1, z2, z3, z4, z5, z6, z7, z8, z9, z10, z11, z12, z13, z14, z15, z16, z17, z18, z19, z20], [ar0, ar1, ar2, ar3, ar4, ar5, ar6, ar7, ar8, ar9, ar10]) [] H ∧ va_S (xA E) s.heap H [] ∧ H = s.heap := ⟨_, hT, va_S.rf, rfl⟩
  rw [← hgo]
  have hl : lv_has ls 4 [(0, .ref a), (1, .int p0)] := hl
  refine lv_aload_n hx hb dX11_inQueue_0 rfl (lv_at hl 0 rfl) ?_
  refine x_cv0 (x_runV (b := a) (As := []) (rest := []) S (c_X11_findQueue l E K F tl z0 z1 z2 z3 z4 z5 z6 z7 z8 z9 z10 z11 z12 z13 z14 z15 z16 z17 z18 z19 z20 ar0 ar1 ar2 ar3 ar4 ar5 ar6 ar7 ar8 ar9 ar10 a ha hR) mv_X11_findQueue km_X11_218 rfl rfl ⟨Nat.le_of_ble_eq_true rfl, Nat.le_of_ble_eq_true rfl⟩ (rc_13 hK hT ha) hK (fun _ => XP.blind) (fun U hU hW => XP.at hK hz hS hT hU hW) rfl hl.1 (Nat.le_of_ble_eq_true rfl) dX11_inQueue_1 ⟨Nat.le_of_ble_eq_true rfl, Nat.le_of_ble_eq_true rfl⟩) hS ?_
  rintro ⟨u1, u2, f3, f4, f5⟩ H locs t6 hT hS
  have hT : TW E K F (tl, [z0, z1, z2, u1, u2, z5, z6, z7, z8, z9, z10, z11, z12, z13, z14, z15, z16, z17, z18, z19, z20], [ar0, ar1, f3, f4, f5, ar5, ar6, ar7, ar8, ar9, ar10]) [] H := hT
  have t6 : 0 ≤ u2.toInt ∧ u2.toInt ≤ 2388 ∧ u2.toInt ≤ (((fV ar1 f4 f5) : Nat) : Int) := t6
  refine lv_iconst (v := 0) hx hb dX11_inQueue_4 (by decide) ?_
  refine lv_istore_n (lv' := [(2, .int 0), (0, .ref a), (1, .int p0)]) hx hb dX11_inQueue_5 rfl hl (by decide) rfl (fun ls hl => ?_)
  refine lv_iconst (v := 0) hx hb dX11_inQueue_6 (by decide) ?_
  refine lv_istore_n (lv' := [(3, .int 0), (2, .int 0), (0, .ref a), (1, .int p0)]) hx hb dX11_inQueue_7 rfl hl (by decide) rfl (fun ls hl => ?_)
  have L8 : ∀ (N11 : Nat) (x9 : Int32) (x10 : Int32) (H : Heap) (locs : List Loc) (ls : Array Slot), (0 : Int) ≤ x10.toInt → 2147483648 - x10.toInt < ((N11 : Nat) : Int) → TW E K F (tl, [z0, z1, z2, u1, u2, z5, z6, z7, z8, z9, z10, z11, z12, z13, z14, z15, z16, z17, z18, z19, z20], [ar0, ar1, f3, f4, f5, ar5, ar6, ar7, ar8, ar9, ar10]) [] H → va_S (xA E) s.heap H locs → lv_has ls 4 [(0, .ref a), (1, .int p0), (2, .int x9), (3, .int x10)] → W p l e rm_X11_inQueue s m args below meth c H locs 0 0 Q (F0 m 8 ls []) := by
    intro N11
    induction N11 with
    | zero =>
      intro x9 x10 H locs ls hf12 hm13
      exact absurd hm13 (z_X11_inQueue_1 x10.toInt hf12 (xr x10))
    | succ N11 ih14 =>
      intro x9 x10 H locs ls hf12 hm13 hT hS hl
      refine lv_iload_n hx hb dX11_inQueue_8 rfl (lv_at hl 3 rfl) ?_
      refine lv_aload_n hx hb dX11_inQueue_9 rfl (lv_at hl 0 rfl) ?_
      refine gX11_19 S hK hT ha kf_X11_203 dX11_inQueue_10 (v := u2) rfl ?_
      refine xi_cge (tgt := 40) hx hb (rfl : Int32.toInt x10 = x10.toInt) (rfl : Int32.toInt u2 = u2.toInt) dX11_inQueue_13 (by decide) (fun c15 => ?_) (fun c15 => ?_)
      · refine lv_iload_n hx hb dX11_inQueue_40 rfl (lv_at hl 2 rfl) ?_
        exact x_ri hx hb hr hlk hQ (Nat.le_of_ble_eq_true rfl) (Nat.le_of_ble_eq_true rfl) hS dX11_inQueue_41 (u1, u2, f3, f4, f5) ⟨_, rfl, (z_X11_inQueue_2 u2.toInt x10.toInt N11 (fV ar1 f4 f5) t6 hf12 hm13 c15 (xr u2) (xr x10))⟩ hT.nil
      · refine lv_iload_n hx hb dX11_inQueue_16 rfl (lv_at hl 2 rfl) ?_
        refine lv_aload_n hx hb dX11_inQueue_17 rfl (lv_at hl 0 rfl) ?_
        refine gX11_17 S hK hT ha kf_X11_51 dX11_inQueue_18 (fun hk16 => ?_)
        refine lv_iload_n hx hb dX11_inQueue_21 rfl (lv_at hl 3 rfl) ?_
        refine tld_0 S hK hT hk16 (at_43 (f := f4) rfl) (by decide) (z_X11_inQueue_3 u2.toInt x10.toInt N11 (fV ar1 f4 f5) t6 hf12 hm13 c15 (xr u2) (xr x10)) dX11_inQueue_22 (fun x17 w18 o19 => ?_)
        have v21 : 0 ≤ x17.toInt ∧ x17.toInt ≤ 11 ∧ 0 ≤ (aI ar1 (10 * x17.toInt + (0 : Int))) := fV_rule (f4 := f5) w18 (z_X11_inQueue_4 u2.toInt x10.toInt N11 (fV ar1 f4 f5) t6 hf12 hm13 c15 (xr u2) (xr x10))
        have v22 : (-1 ≤ (aI ar1 (10 * x17.toInt + (0 : Int))) ∧ (aI ar1 (10 * x17.toInt + (0 : Int))) ≤ 5) ∧ (0 ≤ (aI ar1 (10 * x17.toInt + (1 : Int))) ∧ (aI ar1 (10 * x17.toInt + (1 : Int))) ≤ 2) ∧ (0 ≤ (aI ar1 (10 * x17.toInt + (2 : Int))) ∧ (aI ar1 (10 * x17.toInt + (2 : Int))) ≤ 2) ∧ (-1 ≤ (aI ar1 (10 * x17.toInt + (3 : Int))) ∧ (aI ar1 (10 * x17.toInt + (3 : Int))) ≤ 2) ∧ ((aI ar1 (10 * x17.toInt + (0 : Int))) = 1 ∨ (aI ar1 (10 * x17.toInt + (0 : Int))) = 3 ∨ (aI ar1 (10 * x17.toInt + (0 : Int))) = 4 → 0 ≤ (aI ar1 (10 * x17.toInt + (3 : Int)))) := RV.row hR (z_X11_inQueue_5 x17.toInt (aI ar1 (10 * x17.toInt + (0 : Int))) (aI f4 x10.toInt) w18 v21 (xr x17))
        refine lv_iload_n hx hb dX11_inQueue_23 rfl (lv_at hl 1 rfl) ?_
        have J32 : ∀ (x23 : Int32) (H : Heap) (locs : List Loc) (ls : Array Slot), TW E K F (tl, [z0, z1, z2, u1, u2, z5, z6, z7, z8, z9, z10, z11, z12, z13, z14, z15, z16, z17, z18, z19, z20], [ar0, ar1, f3, f4, f5, ar5, ar6, ar7, ar8, ar9, ar10]) [] H → va_S (xA E) s.heap H locs → lv_has ls 4 [(0, .ref a), (1, .int p0), (3, .int x10)] → W p l e rm_X11_inQueue s m args below meth c H locs 0 0 Q (F0 m 32 ls [.int x23, .int x9]) := by
          intro x23 H locs ls hT hS hl
          refine xi_iadd hx hb (rfl : Int32.toInt x9 = x9.toInt) (rfl : Int32.toInt x23 = x23.toInt) dX11_inQueue_32 (fun x24 t25 => ?_)
          refine lv_istore_n (lv' := [(2, .int x24), (0, .ref a), (1, .int p0), (3, .int x10)]) hx hb dX11_inQueue_33 rfl hl (by decide) rfl (fun ls hl => ?_)
          refine xi_iinc (n := 1) (lv' := fun z9 => [(3, .int z9), (2, .int x24), (0, .ref a), (1, .int p0)]) (k := 3) hx hb (rfl : Int32.toInt x10 = x10.toInt) (by decide) dX11_inQueue_34 hl rfl (by decide) (fun _ => rfl) (fun x26 ls t27 hl => ?_)
          have hl : lv_has ls 4 [(3, .int x26), (2, .int x24), (0, .ref a), (1, .int p0)] := hl
          refine lv_goto (tgt := 8) hx hb dX11_inQueue_37 (by decide) ?_
          exact ih14 x24 x26 _ _ _ (z_X11_inQueue_6 u2.toInt x10.toInt x26.toInt N11 (fV ar1 f4 f5) t6 hf12 hm13 c15 t27 (xr u2) (xr x10) (xr x26)) (z_X11_inQueue_7 u2.toInt x10.toInt x26.toInt N11 (fV ar1 f4 f5) t6 hf12 hm13 c15 t27 (xr u2) (xr x10) (xr x26)) hT.nil hS (lv_sub hl [2, 3, 1, 0] rfl)
        refine xi_cne (tgt := 31) hx hb (rfl : Int32.toInt x17 = x17.toInt) (rfl : Int32.toInt p0 = p0.toInt) dX11_inQueue_24 (by decide) (fun c28 => ?_) (fun c28 => ?_)
        · refine lv_iconst (v := 0) hx hb dX11_inQueue_31 (by decide) ?_
          exact J32 0 _ _ _ hT.nil hS (lv_sub hl [0, 1, 3] rfl)
        · refine lv_iconst (v := 1) hx hb dX11_inQueue_27 (by decide) ?_
          refine lv_goto (tgt := 32) hx hb dX11_inQueue_28 (by decide) ?_
          exact J32 1 _ _ _ hT.nil hS (lv_sub hl [0, 1, 3] rfl)
  exact L8 4294967297 0 0 _ _ _ (by decide) (by decide) hT.nil hS (lv_sub hl [2, 3, 1, 0] rfl)
