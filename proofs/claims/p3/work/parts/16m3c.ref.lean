theorem z_X11_settles_1 (a0 : Int) (a1 : Int) (a2 : Nat) (h0 : 0 ≤ a0) (h1 : a0 ≤ 2388) (h2 : a0 ≤ ((a2 : Nat) : Int)) (h3 : a1 = -1 ∨ (0 ≤ a1 ∧ a1 < a0)) (r0 : -2147483648 ≤ a0 ∧ a0 < 2147483648) (r1 : -2147483648 ≤ a1 ∧ a1 < 2147483648) : 0 ≤ a0 ∧ a0 ≤ 2388 ∧ a0 ≤ ((a2 : Nat) : Int) := by omega
theorem z_X11_settles_2 (a0 : Int) (a1 : Int) (a2 : Nat) (h0 : 0 ≤ a0) (h1 : a0 ≤ 2388) (h2 : a0 ≤ ((a2 : Nat) : Int)) (h3 : a1 = -1 ∨ (0 ≤ a1 ∧ a1 < a0)) (r0 : -2147483648 ≤ a0 ∧ a0 < 2147483648) (r1 : -2147483648 ≤ a1 ∧ a1 < 2147483648) : a1 = -1 ∨ (0 ≤ a1 ∧ a1 < a0) := by omega
theorem z_X11_settles_3 (a0 : Int) (a1 : Int) (h0 : 0 ≤ a1 ∧ a1 ≤ 24) (h1 : 0 ≤ a0 ∧ a0 ≤ 2400) (r0 : -2147483648 ≤ a0 ∧ a0 < 2147483648) (r1 : -2147483648 ≤ a1 ∧ a1 < 2147483648) : 0 ≤ a1 ∧ a1 ≤ 24 ∧ 0 ≤ a0 ∧ a0 ≤ 2400 := by omega
theorem z_X11_settles_4 (a0 : Int) (a1 : Int) (a2 : Nat) (h0 : 0 ≤ a0) (h1 : a0 ≤ 2388) (h2 : a0 ≤ ((a2 : Nat) : Int)) (h3 : a1 = -1 ∨ (0 ≤ a1 ∧ a1 < a0)) (h4 : ¬ (a1 = (-1 : Int))) (r0 : -2147483648 ≤ a0 ∧ a0 < 2147483648) (r1 : -2147483648 ≤ a1 ∧ a1 < 2147483648) : 0 ≤ a0 ∧ a0 ≤ 2388 ∧ a0 ≤ ((a2 : Nat) : Int) := by omega
theorem z_X11_settles_5 (a0 : Int) (a1 : Int) (a2 : Nat) (h0 : 0 ≤ a0) (h1 : a0 ≤ 2388) (h2 : a0 ≤ ((a2 : Nat) : Int)) (h3 : a1 = -1 ∨ (0 ≤ a1 ∧ a1 < a0)) (h4 : ¬ (a1 = (-1 : Int))) (r0 : -2147483648 ≤ a0 ∧ a0 < 2147483648) (r1 : -2147483648 ≤ a1 ∧ a1 < 2147483648) : 0 ≤ a1 ∧ a1 < a0 := by omega
theorem z_X11_settles_6 (a0 : Int) (a1 : Int) (h0 : 0 ≤ a0 ∧ a0 ≤ 2400) (h1 : 0 ≤ a1 ∧ a1 ≤ 24) (r0 : -2147483648 ≤ a0 ∧ a0 < 2147483648) (r1 : -2147483648 ≤ a1 ∧ a1 < 2147483648) : 0 ≤ a1 ∧ a1 ≤ 24 ∧ 0 ≤ a0 ∧ a0 ≤ 2400 := by omega
theorem z_X11_settles_7 (a0 : Int) (a1 : Int) (h0 : 0 ≤ a1 ∧ a1 ≤ 24) (h1 : 0 ≤ a0 ∧ a0 ≤ 2400) (r0 : -2147483648 ≤ a0 ∧ a0 < 2147483648) (r1 : -2147483648 ≤ a1 ∧ a1 < 2147483648) : 0 ≤ a1 ∧ a1 ≤ 24 ∧ 0 ≤ a0 ∧ a0 ≤ 2400 := by omega
theorem z_X11_settles_8 (a0 : Int) (a1 : Int) (a2 : Int) (a3 : Int) (a4 : Int) (a5 : Int) (a6 : Nat) (h0 : 0 ≤ a0) (h1 : a0 ≤ 2388) (h2 : a0 ≤ ((a6 : Nat) : Int)) (h3 : a1 = a5) (h4 : a5 = -1 ∨ (0 ≤ a5 ∧ a5 < a0)) (h5 : ¬ (a5 = (-1 : Int))) (h6 : a3 = a1 + (1 : Int) ∨ a1 + (1 : Int) < -2147483648 ∨ 2147483648 ≤ a1 + (1 : Int)) (h7 : a4 = a2 + a3 ∨ a2 + a3 < -2147483648 ∨ 2147483648 ≤ a2 + a3) (r0 : -2147483648 ≤ a0 ∧ a0 < 2147483648) (r1 : -2147483648 ≤ a1 ∧ a1 < 2147483648) (r2 : -2147483648 ≤ a2 ∧ a2 < 2147483648) (r3 : -2147483648 ≤ a3 ∧ a3 < 2147483648) (r4 : -2147483648 ≤ a4 ∧ a4 < 2147483648) (r5 : -2147483648 ≤ a5 ∧ a5 < 2147483648) : 0 ≤ a0 ∧ a0 ≤ 2388 ∧ a0 ≤ ((a6 : Nat) : Int) := by first | (clear h6 h7; omega) | omega
theorem z_X11_settles_9 (a0 : Int) (a1 : Int) (a2 : Int) (a3 : Int) (a4 : Int) (a5 : Int) (a6 : Nat) (h0 : 0 ≤ a0) (h1 : a0 ≤ 2388) (h2 : a0 ≤ ((a6 : Nat) : Int)) (h3 : a1 = a5) (h4 : a5 = -1 ∨ (0 ≤ a5 ∧ a5 < a0)) (h5 : ¬ (a5 = (-1 : Int))) (h6 : a3 = a1 + (1 : Int) ∨ a1 + (1 : Int) < -2147483648 ∨ 2147483648 ≤ a1 + (1 : Int)) (h7 : a4 = a2 + a3 ∨ a2 + a3 < -2147483648 ∨ 2147483648 ≤ a2 + a3) (r0 : -2147483648 ≤ a0 ∧ a0 < 2147483648) (r1 : -2147483648 ≤ a1 ∧ a1 < 2147483648) (r2 : -2147483648 ≤ a2 ∧ a2 < 2147483648) (r3 : -2147483648 ≤ a3 ∧ a3 < 2147483648) (r4 : -2147483648 ≤ a4 ∧ a4 < 2147483648) (r5 : -2147483648 ≤ a5 ∧ a5 < 2147483648) : 0 ≤ a1 ∧ a1 < a0 := by first | (clear h7; omega) | omega
theorem z_X11_settles_10 (a0 : Int) (a1 : Int) (h0 : 0 ≤ a1 ∧ a1 ≤ 2400) (h1 : 0 ≤ a0 ∧ a0 ≤ 24) (r0 : -2147483648 ≤ a0 ∧ a0 < 2147483648) (r1 : -2147483648 ≤ a1 ∧ a1 < 2147483648) : 0 ≤ a0 ∧ a0 ≤ 24 ∧ 0 ≤ a1 ∧ a1 ≤ 2400 := by omega
abbrev rm_X11_settles : Room := { frames := 7, cells := 0, slots := 0, locals := 166 }
set_option maxHeartbeats 4000000 in
set_option maxRecDepth 100000 in
theorem c_X11_settles (l : Launch) (E : XE) (K : Nat → Nat) (F : Nat → Nat → Nat) (tl z0 z1 z2 z3 z4 z5 z6 z7 z8 z9 z10 z11 z12 z13 z14 z15 z16 z17 z18 z19 z20 : Int32) (ar0 ar1 ar2 ar3 ar4 ar5 ar6 ar7 ar8 ar9 ar10 : Nat → Int32) (a : Nat) (ha : K a = 13) (hR : RV ar1) (e0 : 0 ≤ z7.toInt ∧ z7.toInt ≤ 24) (e1 : 0 ≤ z12.toInt ∧ z12.toInt ≤ 2400) : Met l yX11_settles (xw yX11_settles cX11_settles 1 (some .int)) rm_X11_settles (va_Pc [.ref a] (XP E K F (tl, [z0, z1, z2, z3, z4, z5, z6, z7, z8, z9, z10, z11, z12, z13, z14, z15, z16, z17, z18, z19, z20], [ar0, ar1, ar2, ar3, ar4, ar5, ar6, ar7, ar8, ar9, ar10]))) (XQ E (fun v (u : Int32 × Int32 × Int32 × Int32 × Int32 × Int32 × Int32 × Int32 × Int32 × (Nat → Int32) × (Nat → Int32) × (Nat → Int32) × (Nat → Int32)) => ∃ r : Int32, v = .int r ∧ (0 ≤ u.2.2.2.2.1.toInt ∧ u.2.2.2.2.1.toInt ≤ 24 ∧ 0 ≤ u.2.2.2.2.2.1.toInt ∧ u.2.2.2.2.2.1.toInt ≤ 2400)) (fun u H => TW E K F (tl, [z0, z1, z2, u.1, u.2.1, u.2.2.1, u.2.2.2.1, u.2.2.2.2.1, z8, z9, z10, z11, u.2.2.2.2.2.1, u.2.2.2.2.2.2.1, u.2.2.2.2.2.2.2.1, u.2.2.2.2.2.2.2.2.1, z16, z17, z18, z19, z20], [u.2.2.2.2.2.2.2.2.2.1, ar1, u.2.2.2.2.2.2.2.2.2.2.1, u.2.2.2.2.2.2.2.2.2.2.2.1, u.2.2.2.2.2.2.2.2.2.2.2.2, ar5, ar6, ar7, ar8, ar9, ar10]) [] H)) 0 0 (xA E) := by
  refine x_enter (by decide) (Nat.le_of_ble_eq_true rfl) ?_
  intro p e s m args below meth c Q S hr hlk hnm hQ hP ls hl
  obtain ⟨hz, hK, hT⟩ := hP
  obtain ⟨hx, hb, -, -, -⟩ := id S
  obtain ⟨H, hT, hS, hgo⟩ : ∃ H : Heap, TW E K F (tl, [z0, z1, z2, z3, z4, z5, z6, z7, z8, z9, z10, z11, z12, z13, z14, z15, z16, z17, z18, z19, z20], [ar0, ar1, ar2, ar3, ar4, ar5, ar6, ar7, ar8, ar9, ar10]) [] H ∧ va_S (xA E) s.heap H [] ∧ H = s.heap := ⟨_, hT, va_S.rf, rfl⟩
  rw [← hgo]
  have hl : lv_has ls 1 [(0, .ref a)] := hl
  refine lv_aload_n hx hb dX11_settles_0 rfl (lv_at hl 0 rfl) ?_
  refine x_cl0 (x_runV (b := a) (As := []) (rest := []) S (c_X11_look l E K F tl z0 z1 z2 z3 z4 z5 z6 z7 z8 z9 z10 z11 z12 z13 z14 z15 z16 z17 z18 z19 z20 ar0 ar1 ar2 ar3 ar4 ar5 ar6 ar7 ar8 ar9 ar10 a ha hR) mv_X11_look km_X11_328 rfl rfl ⟨Nat.le_of_ble_eq_true rfl, Nat.le_of_ble_eq_true rfl⟩ (rc_13 hK hT ha) hK (fun _ => XP.blind) (fun U hU hW => XP.at hK hz hS hT hU hW) rfl hl.1 (Nat.le_of_ble_eq_true rfl) dX11_settles_1 ⟨Nat.le_of_ble_eq_true rfl, Nat.le_of_ble_eq_true rfl⟩) hS ?_
  rintro _ ⟨u1, u2, u3, u4, f5, f6, f7⟩ H locs ⟨x9, rfl, t8⟩ hT hS
  have hT : TW E K F (tl, [z0, z1, z2, u1, u2, z5, z6, z7, z8, z9, z10, z11, z12, z13, u3, u4, z16, z17, z18, z19, z20], [ar0, ar1, f5, f6, f7, ar5, ar6, ar7, ar8, ar9, ar10]) [] H := hT
  have t8 : 0 ≤ u2.toInt ∧ u2.toInt ≤ 2388 ∧ u2.toInt ≤ (((fV ar1 f6 f7) : Nat) : Int) ∧ u4.toInt = x9.toInt ∧ (x9.toInt = -1 ∨ (0 ≤ x9.toInt ∧ x9.toInt < u2.toInt)) := t8
  refine lv_iconst (v := (-1)) hx hb dX11_settles_4 (by decide) ?_
  refine xi_ceq (tgt := 28) hx hb (rfl : Int32.toInt x9 = x9.toInt) ((by decide) : Int32.toInt (-1) = (-1 : Int)) dX11_settles_5 (by decide) (fun c11 => ?_) (fun c11 => ?_)
  · refine lv_aload_n hx hb dX11_settles_28 rfl (lv_at hl 0 rfl) ?_
    refine gX11_9 S hK hT ha kf_X11_30 dX11_settles_29 (fun hk12 => ?_)
    refine lv_iconst (v := 0) hx hb dX11_settles_32 (by decide) ?_
    refine lv_dup2_11 hx hb dX11_settles_33 rfl rfl ?_
    refine al_0 S hK hT hk12 ar_36 (by decide) (by decide) dX11_settles_34 (fun x13 o14 => ?_)
    refine lv_aload_n hx hb dX11_settles_35 rfl (lv_at hl 0 rfl) ?_
    refine gX11_19 S hK hT ha kf_X11_203 dX11_settles_36 (v := u2) rfl ?_
    refine xi_iadd hx hb (rfl : Int32.toInt x13 = x13.toInt) (rfl : Int32.toInt u2 = u2.toInt) dX11_settles_39 (fun x15 t16 => ?_)
    refine as_0 S hK hT hS hk12 ar_36 aw_36 (by decide) (by decide) dX11_settles_40 (fun H locs hT hS => ?_)
    refine lv_aload_n hx hb dX11_settles_41 rfl (lv_at hl 0 rfl) ?_
    refine gX11_6 S hK hT ha kf_X11_206 dX11_settles_42 (v := z1) rfl ?_
    refine xi_zeq (tgt := 89) hx hb (rfl : Int32.toInt z1 = z1.toInt) dX11_settles_45 (by decide) (fun c17 => ?_) (fun c17 => ?_)
    · refine lv_aload_n hx hb dX11_settles_89 rfl (lv_at hl 0 rfl) ?_
      refine lv_aload_n hx hb dX11_settles_90 rfl (lv_at hl 0 rfl) ?_
      refine lv_iconst (v := 1) hx hb dX11_settles_91 (by decide) ?_
      refine x_cl0 (x_runV (b := a) (As := [.int 1]) (rest := [.ref a]) S (c_X11_asks l E K F tl z0 z1 z2 u1 u2 z5 z6 z7 z8 z9 z10 z11 z12 z13 u3 u4 z16 z17 z18 z19 z20 ar0 ar1 f5 f6 f7 ar5 ar6 ar7 ar8 ar9 ar10 a 1 ha hR) mv_X11_asks km_X11_319 rfl rfl ⟨Nat.le_of_ble_eq_true rfl, Nat.le_of_ble_eq_true rfl⟩ (rc_13 hK hT ha) hK (fun _ => XP.blind) (fun U hU hW => XP.at hK hz hS hT hU hW) rfl hl.1 (Nat.le_of_ble_eq_true rfl) dX11_settles_92 ⟨Nat.le_of_ble_eq_true rfl, Nat.le_of_ble_eq_true rfl⟩) hS ?_
      rintro _ ⟨u18, u19, f20, f21, f22⟩ H locs ⟨x24, rfl, t23⟩ hT hS
      have hT : TW E K F (tl, [z0, z1, z2, u18, u19, z5, z6, z7, z8, z9, z10, z11, z12, z13, u3, u4, z16, z17, z18, z19, z20], [ar0, ar1, f20, f21, f22, ar5, ar6, ar7, ar8, ar9, ar10]) [] H := hT
      have t23 : 0 ≤ u19.toInt ∧ u19.toInt ≤ 2388 ∧ u19.toInt ≤ (((fV ar1 f21 f22) : Nat) : Int) ∧ (x24.toInt = -1 ∨ (0 ≤ x24.toInt ∧ x24.toInt < u19.toInt)) := t23
      refine pX11_46 (kq := []) (v := x24) S hK hT hS ha kf_X11_322 (Nat.le_of_ble_eq_true rfl) dX11_settles_95 (fun _ h => by cases h) (fun H locs hT hS => ?_)
      have hT : TW E K F (tl, [z0, z1, z2, u18, u19, z5, z6, z7, z8, z9, z10, z11, z12, z13, u3, x24, z16, z17, z18, z19, z20], [ar0, ar1, f20, f21, f22, ar5, ar6, ar7, ar8, ar9, ar10]) [] H := hT
      refine lv_aload_n hx hb dX11_settles_98 rfl (lv_at hl 0 rfl) ?_
      refine x_cv0 (x_runV (b := a) (As := []) (rest := []) S (c_X11_takeAsked l E K F tl z0 z1 z2 u18 u19 z5 z6 z7 z8 z9 z10 z11 z12 z13 u3 x24 z16 z17 z18 z19 z20 ar0 ar1 f20 f21 f22 ar5 ar6 ar7 ar8 ar9 ar10 a ha hR (z_X11_settles_1 u19.toInt x24.toInt (fV ar1 f21 f22) (t23).1 (t23).2.1 (t23).2.2.1 (t23).2.2.2 (xr u19) (xr x24)) (z_X11_settles_2 u19.toInt x24.toInt (fV ar1 f21 f22) (t23).1 (t23).2.1 (t23).2.2.1 (t23).2.2.2 (xr u19) (xr x24))) mv_X11_takeAsked km_X11_337 rfl rfl ⟨Nat.le_of_ble_eq_true rfl, Nat.le_of_ble_eq_true rfl⟩ (rc_13 hK hT ha) hK (fun _ => XP.blind) (fun U hU hW => XP.at hK hz hS hT hU hW) rfl hl.1 (Nat.le_of_ble_eq_true rfl) dX11_settles_99 ⟨Nat.le_of_ble_eq_true rfl, Nat.le_of_ble_eq_true rfl⟩) hS ?_
      rintro ⟨u26, u27⟩ H locs t28 hT hS
      have hT : TW E K F (tl, [z0, z1, z2, u18, u19, z5, z6, z7, z8, z9, z10, z11, u26, u27, u3, x24, z16, z17, z18, z19, z20], [ar0, ar1, f20, f21, f22, ar5, ar6, ar7, ar8, ar9, ar10]) [] H := hT
      have t28 : 0 ≤ u26.toInt ∧ u26.toInt ≤ 2400 := t28
      refine lv_aload_n hx hb dX11_settles_102 rfl (lv_at hl 0 rfl) ?_
      refine gX11_46 S hK hT ha kf_X11_322 dX11_settles_103 (v := x24) rfl ?_
      refine lv_iconst (v := (-1)) hx hb dX11_settles_106 (by decide) ?_
      refine xi_ceq (tgt := 125) hx hb (rfl : Int32.toInt x24 = x24.toInt) ((by decide) : Int32.toInt (-1) = (-1 : Int)) dX11_settles_107 (by decide) (fun c31 => ?_) (fun c31 => ?_)
      · refine lv_aload_n hx hb dX11_settles_125 rfl (lv_at hl 0 rfl) ?_
        refine gX11_9 S hK hT ha kf_X11_30 dX11_settles_126 (fun hk32 => ?_)
        refine lv_iconst (v := 1) hx hb dX11_settles_129 (by decide) ?_
        refine lv_dup2_11 hx hb dX11_settles_130 rfl rfl ?_
        refine al_0 S hK hT hk32 ar_36 (by decide) (by decide) dX11_settles_131 (fun x33 o34 => ?_)
        refine lv_iconst (v := 1) hx hb dX11_settles_132 (by decide) ?_
        refine xi_iadd hx hb (rfl : Int32.toInt x33 = x33.toInt) ((by decide) : Int32.toInt 1 = (1 : Int)) dX11_settles_133 (fun x35 t36 => ?_)
        refine as_0 S hK hT hS hk32 ar_36 aw_36 (by decide) (by decide) dX11_settles_134 (fun H locs hT hS => ?_)
        refine lv_aload_n hx hb dX11_settles_135 rfl (lv_at hl 0 rfl) ?_
        refine gX11_45 S hK hT ha kf_X11_316 dX11_settles_136 (v := u3) rfl ?_
        exact x_ri hx hb hr hlk hQ (Nat.le_of_ble_eq_true rfl) (Nat.le_of_ble_eq_true rfl) hS dX11_settles_139 (u18, u19, z5, z6, z7, u26, u27, u3, x24, ar0, f20, f21, f22) ⟨_, rfl, (z_X11_settles_3 u26.toInt z7.toInt e0 t28 (xr u26) (xr z7))⟩ hT.nil
      · refine lv_aload_n hx hb dX11_settles_110 rfl (lv_at hl 0 rfl) ?_
        refine gX11_9 S hK hT ha kf_X11_30 dX11_settles_111 (fun hk37 => ?_)
        refine lv_iconst (v := 2) hx hb dX11_settles_114 (by decide) ?_
        refine lv_dup2_11 hx hb dX11_settles_115 rfl rfl ?_
        refine al_0 S hK hT hk37 ar_36 (by decide) (by decide) dX11_settles_116 (fun x38 o39 => ?_)
        refine lv_iconst (v := 1) hx hb dX11_settles_117 (by decide) ?_
        refine xi_iadd hx hb (rfl : Int32.toInt x38 = x38.toInt) ((by decide) : Int32.toInt 1 = (1 : Int)) dX11_settles_118 (fun x40 t41 => ?_)
        refine as_0 S hK hT hS hk37 ar_36 aw_36 (by decide) (by decide) dX11_settles_119 (fun H locs hT hS => ?_)
        refine lv_aload_n hx hb dX11_settles_120 rfl (lv_at hl 0 rfl) ?_
        refine x_cl0 (x_runV (b := a) (As := []) (rest := []) S (c_X11_goesBack l E K F tl z0 z1 z2 u18 u19 z5 z6 z7 z8 z9 z10 z11 u26 u27 u3 x24 z16 z17 z18 z19 z20 ar0 ar1 f20 f21 f22 ar5 ar6 ar7 ar8 ar9 ar10 a ha hR (z_X11_settles_4 u19.toInt x24.toInt (fV ar1 f21 f22) (t23).1 (t23).2.1 (t23).2.2.1 (t23).2.2.2 c31 (xr u19) (xr x24)) (z_X11_settles_5 u19.toInt x24.toInt (fV ar1 f21 f22) (t23).1 (t23).2.1 (t23).2.2.1 (t23).2.2.2 c31 (xr u19) (xr x24))) mv_X11_goesBack km_X11_331 rfl rfl ⟨Nat.le_of_ble_eq_true rfl, Nat.le_of_ble_eq_true rfl⟩ (rc_13 hK hT ha) hK (fun _ => XP.blind) (fun U hU hW => XP.at hK hz hS hT hU hW) rfl hl.1 (Nat.le_of_ble_eq_true rfl) dX11_settles_121 ⟨Nat.le_of_ble_eq_true rfl, Nat.le_of_ble_eq_true rfl⟩) hS ?_
        rintro _ ⟨u42, u43, u44, f45⟩ H locs ⟨x47, rfl, t46⟩ hT hS
        have hT : TW E K F (tl, [z0, z1, z2, u18, u19, u42, u43, u44, z8, z9, z10, z11, u26, u27, u3, x24, z16, z17, z18, z19, z20], [f45, ar1, f20, f21, f22, ar5, ar6, ar7, ar8, ar9, ar10]) [] H := hT
        have t46 : 0 ≤ u44.toInt ∧ u44.toInt ≤ 24 := t46
        exact x_ri hx hb hr hlk hQ (Nat.le_of_ble_eq_true rfl) (Nat.le_of_ble_eq_true rfl) hS dX11_settles_124 (u18, u19, u42, u43, u44, u26, u27, u3, x24, f45, f20, f21, f22) ⟨_, rfl, (z_X11_settles_6 u26.toInt u44.toInt t28 t46 (xr u26) (xr u44))⟩ hT.nil
    · refine lv_aload_n hx hb dX11_settles_48 rfl (lv_at hl 0 rfl) ?_
      refine gX11_8 S hK hT ha kf_X11_27 dX11_settles_49 (fun hk49 => ?_)
      refine lv_iconst (v := 4) hx hb dX11_settles_52 (by decide) ?_
      refine lv_dup2_11 hx hb dX11_settles_53 rfl rfl ?_
      refine al_0 S hK hT hk49 ar_35 (by decide) (by decide) dX11_settles_54 (fun x50 o51 => ?_)
      refine lv_iconst (v := 1) hx hb dX11_settles_55 (by decide) ?_
      refine xi_iadd hx hb (rfl : Int32.toInt x50 = x50.toInt) ((by decide) : Int32.toInt 1 = (1 : Int)) dX11_settles_56 (fun x52 t53 => ?_)
      refine as_0 S hK hT hS hk49 ar_35 aw_35 (by decide) (by decide) dX11_settles_57 (fun H locs hT hS => ?_)
      refine lv_aload_n hx hb dX11_settles_58 rfl (lv_at hl 0 rfl) ?_
      refine lv_aload_n hx hb dX11_settles_59 rfl (lv_at hl 0 rfl) ?_
      refine gX11_13 S hK hT ha kf_X11_42 dX11_settles_60 (fun hk54 => ?_)
      refine lv_aload_n hx hb dX11_settles_63 rfl (lv_at hl 0 rfl) ?_
      refine gX11_2 S hK hT ha kf_X11_15 dX11_settles_64 (fun hk55 => ?_)
      refine lv_iconst (v := 0) hx hb dX11_settles_67 (by decide) ?_
      refine x_cv0 (x_runV (b := a) (As := [.ref (F a 13), .ref (F a 2), .int 0]) (rest := []) S (c_X11_layStates l E K F tl z0 z1 z2 u1 u2 z5 z6 z7 z8 z9 z10 z11 z12 z13 u3 u4 z16 z17 z18 z19 z20 ar0 ar1 f5 f6 f7 ar5 ar6 ar7 ar8 ar9 ar10 a (F a 13) (F a 2) 0 ha hk54 (XO.b hk55 (by decide)) hR) mv_X11_layStates km_X11_210 rfl rfl ⟨Nat.le_of_ble_eq_true rfl, Nat.le_of_ble_eq_true rfl⟩ (rc_13 hK hT ha) hK (fun _ => XP.blind) (fun U hU hW => XP.at hK hz hS hT hU hW) rfl hl.1 (Nat.le_of_ble_eq_true rfl) dX11_settles_68 ⟨Nat.le_of_ble_eq_true rfl, Nat.le_of_ble_eq_true rfl⟩) hS ?_
      rintro _ H locs - hT hS
      refine lv_aload_n hx hb dX11_settles_71 rfl (lv_at hl 0 rfl) ?_
      refine lv_aload_n hx hb dX11_settles_72 rfl (lv_at hl 0 rfl) ?_
      refine gX11_12 S hK hT ha kf_X11_39 dX11_settles_73 (fun hk58 => ?_)
      refine lv_aload_n hx hb dX11_settles_76 rfl (lv_at hl 0 rfl) ?_
      refine gX11_11 S hK hT ha kf_X11_36 dX11_settles_77 (fun hk59 => ?_)
      refine lv_iconst (v := 1) hx hb dX11_settles_80 (by decide) ?_
      refine x_cv0 (x_runV (b := a) (As := [.ref (F a 12), .ref (F a 11), .int 1]) (rest := []) S (c_X11_moves l E K F tl z0 z1 z2 u1 u2 z5 z6 z7 z8 z9 z10 z11 z12 z13 u3 u4 z16 z17 z18 z19 z20 ar0 ar1 f5 f6 f7 ar5 ar6 ar7 ar8 ar9 ar10 a (F a 12) (F a 11) 1 ha hk58 hk59 hR (by decide)) mv_X11_moves km_X11_334 rfl rfl ⟨Nat.le_of_ble_eq_true rfl, Nat.le_of_ble_eq_true rfl⟩ (rc_13 hK hT ha) hK (fun _ => XP.blind) (fun U hU hW => XP.at hK hz hS hT hU hW) rfl hl.1 (Nat.le_of_ble_eq_true rfl) dX11_settles_81 ⟨Nat.le_of_ble_eq_true rfl, Nat.le_of_ble_eq_true rfl⟩) hS ?_
      rintro _ H locs - hT hS
      refine lv_aload_n hx hb dX11_settles_84 rfl (lv_at hl 0 rfl) ?_
      refine gX11_45 S hK hT ha kf_X11_316 dX11_settles_85 (v := u3) rfl ?_
      exact x_ri hx hb hr hlk hQ (Nat.le_of_ble_eq_true rfl) (Nat.le_of_ble_eq_true rfl) hS dX11_settles_88 (u1, u2, z5, z6, z7, z12, z13, u3, u4, ar0, f5, f6, f7) ⟨_, rfl, (z_X11_settles_7 z12.toInt z7.toInt e0 e1 (xr z12) (xr z7))⟩ hT.nil
  · refine lv_aload_n hx hb dX11_settles_8 rfl (lv_at hl 0 rfl) ?_
    refine gX11_9 S hK hT ha kf_X11_30 dX11_settles_9 (fun hk62 => ?_)
    refine lv_iconst (v := 0) hx hb dX11_settles_12 (by decide) ?_
    refine lv_dup2_11 hx hb dX11_settles_13 rfl rfl ?_
    refine al_0 S hK hT hk62 ar_36 (by decide) (by decide) dX11_settles_14 (fun x63 o64 => ?_)
    refine lv_aload_n hx hb dX11_settles_15 rfl (lv_at hl 0 rfl) ?_
    refine gX11_46 S hK hT ha kf_X11_322 dX11_settles_16 (v := u4) rfl ?_
    refine lv_iconst (v := 1) hx hb dX11_settles_19 (by decide) ?_
    refine xi_iadd hx hb (rfl : Int32.toInt u4 = u4.toInt) ((by decide) : Int32.toInt 1 = (1 : Int)) dX11_settles_20 (fun x65 t66 => ?_)
    refine xi_iadd hx hb (rfl : Int32.toInt x63 = x63.toInt) (rfl : Int32.toInt x65 = x65.toInt) dX11_settles_21 (fun x67 t68 => ?_)
    refine as_0 S hK hT hS hk62 ar_36 aw_36 (by decide) (by decide) dX11_settles_22 (fun H locs hT hS => ?_)
    refine lv_aload_n hx hb dX11_settles_23 rfl (lv_at hl 0 rfl) ?_
    refine x_cl0 (x_runV (b := a) (As := []) (rest := []) S (c_X11_goesBack l E K F tl z0 z1 z2 u1 u2 z5 z6 z7 z8 z9 z10 z11 z12 z13 u3 u4 z16 z17 z18 z19 z20 ar0 ar1 f5 f6 f7 ar5 ar6 ar7 ar8 ar9 ar10 a ha hR (z_X11_settles_8 u2.toInt u4.toInt x63.toInt x65.toInt x67.toInt x9.toInt (fV ar1 f6 f7) (t8).1 (t8).2.1 (t8).2.2.1 (t8).2.2.2.1 (t8).2.2.2.2 c11 t66 t68 (xr u2) (xr u4) (xr x63) (xr x65) (xr x67) (xr x9)) (z_X11_settles_9 u2.toInt u4.toInt x63.toInt x65.toInt x67.toInt x9.toInt (fV ar1 f6 f7) (t8).1 (t8).2.1 (t8).2.2.1 (t8).2.2.2.1 (t8).2.2.2.2 c11 t66 t68 (xr u2) (xr u4) (xr x63) (xr x65) (xr x67) (xr x9))) mv_X11_goesBack km_X11_331 rfl rfl ⟨Nat.le_of_ble_eq_true rfl, Nat.le_of_ble_eq_true rfl⟩ (rc_13 hK hT ha) hK (fun _ => XP.blind) (fun U hU hW => XP.at hK hz hS hT hU hW) rfl hl.1 (Nat.le_of_ble_eq_true rfl) dX11_settles_24 ⟨Nat.le_of_ble_eq_true rfl, Nat.le_of_ble_eq_true rfl⟩) hS ?_
    rintro _ ⟨u69, u70, u71, f72⟩ H locs ⟨x74, rfl, t73⟩ hT hS
    have hT : TW E K F (tl, [z0, z1, z2, u1, u2, u69, u70, u71, z8, z9, z10, z11, z12, z13, u3, u4, z16, z17, z18, z19, z20], [f72, ar1, f5, f6, f7, ar5, ar6, ar7, ar8, ar9, ar10]) [] H := hT
    have t73 : 0 ≤ u71.toInt ∧ u71.toInt ≤ 24 := t73
    exact x_ri hx hb hr hlk hQ (Nat.le_of_ble_eq_true rfl) (Nat.le_of_ble_eq_true rfl) hS dX11_settles_27 (u1, u2, u69, u70, u71, z12, z13, u3, u4, f72, f5, f6, f7) ⟨_, rfl, (z_X11_settles_10 u71.toInt z12.toInt e1 t73 (xr u71) (xr z12))⟩ hT.nil

theorem z_X11_put_1 (a0 : Int) (a1 : Int) (h0 : 0 ≤ a1 ∧ a1 ≤ 2400) (h1 : a0 = 0) (r0 : -2147483648 ≤ a0 ∧ a0 < 2147483648) (r1 : -2147483648 ≤ a1 ∧ a1 < 2147483648) : 0 ≤ a0 ∧ a0 ≤ 24 ∧ 0 ≤ a1 ∧ a1 ≤ 2400 := by omega
theorem z_X11_put_2 (a0 : Int) (a1 : Int) (a2 : Int) (a3 : Int) (a4 : Int) (a5 : Int) (a6 : Int) (h0 : (a5 = 1 ∧ 0 ≤ a0 ∧ a0 ≤ 2) ∨ (a5 = 0 ∧ (a0 < 0 ∨ 2 < a0))) (h1 : a5 = 0 ∨ a5 = 1) (h2 : ¬ (a5 = 0)) (h3 : (a2 = 1 ∧ 0 ≤ a1 ∧ a1 ≤ 29) ∨ (a2 = 0 ∧ (a1 < 0 ∨ 29 < a1))) (h4 : a2 = 0 ∨ a2 = 1) (h5 : ¬ (a2 = 0)) (h6 : a3 = 0 ∨ (a3 = 1 ∧ 0 ≤ a0 ∧ a0 ≤ 2 ∧ 0 ≤ a1 ∧ a1 ≤ 29 ∧ a6 = 1)) (h7 : a3 = 0 ∨ a3 = 1) (h8 : a3 = 0) (h9 : 0 ≤ a0 ∧ a0 ≤ 2 ∧ 0 ≤ a1 ∧ a1 ≤ 29 → a4 = 4 * (30 * a0 + a1)) (r0 : -2147483648 ≤ a0 ∧ a0 < 2147483648) (r1 : -2147483648 ≤ a1 ∧ a1 < 2147483648) (r2 : -2147483648 ≤ a2 ∧ a2 < 2147483648) (r3 : -2147483648 ≤ a3 ∧ a3 < 2147483648) (r4 : -2147483648 ≤ a4 ∧ a4 < 2147483648) (r5 : -2147483648 ≤ a5 ∧ a5 < 2147483648) : 0 ≤ a4 ∧ a4 < ((360 : Nat) : Int) := by first | (clear h0 h1 h2 h3 h4 h5 h6 h7; omega) | (clear h1 h2 h4 h5 h7; omega) | omega
theorem z_X11_put_3 (a0 : Int) (a1 : Int) (a2 : Int) (a3 : Int) (a4 : Int) (a5 : Int) (a6 : Int) (a7 : Int) (h0 : (a6 = 1 ∧ 0 ≤ a0 ∧ a0 ≤ 2) ∨ (a6 = 0 ∧ (a0 < 0 ∨ 2 < a0))) (h1 : a6 = 0 ∨ a6 = 1) (h2 : ¬ (a6 = 0)) (h3 : (a2 = 1 ∧ 0 ≤ a1 ∧ a1 ≤ 29) ∨ (a2 = 0 ∧ (a1 < 0 ∨ 29 < a1))) (h4 : a2 = 0 ∨ a2 = 1) (h5 : ¬ (a2 = 0)) (h6 : a3 = 0 ∨ (a3 = 1 ∧ 0 ≤ a0 ∧ a0 ≤ 2 ∧ 0 ≤ a1 ∧ a1 ≤ 29 ∧ a7 = 1)) (h7 : a3 = 0 ∨ a3 = 1) (h8 : a3 = 0) (h9 : 0 ≤ a0 ∧ a0 ≤ 2 ∧ 0 ≤ a1 ∧ a1 ≤ 29 → a4 = 4 * (30 * a0 + a1)) (h10 : a5 = a4 + (1 : Int) ∨ a4 + (1 : Int) < -2147483648 ∨ 2147483648 ≤ a4 + (1 : Int)) (r0 : -2147483648 ≤ a0 ∧ a0 < 2147483648) (r1 : -2147483648 ≤ a1 ∧ a1 < 2147483648) (r2 : -2147483648 ≤ a2 ∧ a2 < 2147483648) (r3 : -2147483648 ≤ a3 ∧ a3 < 2147483648) (r4 : -2147483648 ≤ a4 ∧ a4 < 2147483648) (r5 : -2147483648 ≤ a5 ∧ a5 < 2147483648) (r6 : -2147483648 ≤ a6 ∧ a6 < 2147483648) : 0 ≤ a5 ∧ a5 < ((360 : Nat) : Int) := by first | (clear h0 h1 h2 h3 h4 h5 h6 h7 h9; omega) | (clear h0 h1 h2 h3 h4 h5 h6 h7; omega) | (clear h1 h2 h4 h5 h7; omega) | omega
theorem z_X11_put_4 (a0 : Int) (a1 : Int) (a2 : Int) (a3 : Int) (a4 : Int) (a5 : Int) (a6 : Int) (a7 : Int) (a8 : Int) (h0 : (a7 = 1 ∧ 0 ≤ a0 ∧ a0 ≤ 2) ∨ (a7 = 0 ∧ (a0 < 0 ∨ 2 < a0))) (h1 : a7 = 0 ∨ a7 = 1) (h2 : ¬ (a7 = 0)) (h3 : (a2 = 1 ∧ 0 ≤ a1 ∧ a1 ≤ 29) ∨ (a2 = 0 ∧ (a1 < 0 ∨ 29 < a1))) (h4 : a2 = 0 ∨ a2 = 1) (h5 : ¬ (a2 = 0)) (h6 : a3 = 0 ∨ (a3 = 1 ∧ 0 ≤ a0 ∧ a0 ≤ 2 ∧ 0 ≤ a1 ∧ a1 ≤ 29 ∧ a8 = 1)) (h7 : a3 = 0 ∨ a3 = 1) (h8 : a3 = 0) (h9 : 0 ≤ a0 ∧ a0 ≤ 2 ∧ 0 ≤ a1 ∧ a1 ≤ 29 → a4 = 4 * (30 * a0 + a1)) (h10 : a5 = a4 + (1 : Int) ∨ a4 + (1 : Int) < -2147483648 ∨ 2147483648 ≤ a4 + (1 : Int)) (h11 : a6 = a4 + (2 : Int) ∨ a4 + (2 : Int) < -2147483648 ∨ 2147483648 ≤ a4 + (2 : Int)) (r0 : -2147483648 ≤ a0 ∧ a0 < 2147483648) (r1 : -2147483648 ≤ a1 ∧ a1 < 2147483648) (r2 : -2147483648 ≤ a2 ∧ a2 < 2147483648) (r3 : -2147483648 ≤ a3 ∧ a3 < 2147483648) (r4 : -2147483648 ≤ a4 ∧ a4 < 2147483648) (r5 : -2147483648 ≤ a5 ∧ a5 < 2147483648) (r6 : -2147483648 ≤ a6 ∧ a6 < 2147483648) (r7 : -2147483648 ≤ a7 ∧ a7 < 2147483648) : 0 ≤ a6 ∧ a6 < ((360 : Nat) : Int) := by first | (clear h0 h1 h2 h3 h4 h5 h6 h7 h9 h10; omega) | (clear h0 h1 h2 h3 h4 h5 h6 h7; omega) | (clear h1 h2 h4 h5 h7; omega) | omega
theorem z_X11_put_5 (a0 : Int) (a1 : Int) (a2 : Int) (a3 : Int) (a4 : Int) (a5 : Int) (a6 : Int) (a7 : Int) (a8 : Int) (a9 : Int) (h0 : (a8 = 1 ∧ 0 ≤ a0 ∧ a0 ≤ 2) ∨ (a8 = 0 ∧ (a0 < 0 ∨ 2 < a0))) (h1 : a8 = 0 ∨ a8 = 1) (h2 : ¬ (a8 = 0)) (h3 : (a2 = 1 ∧ 0 ≤ a1 ∧ a1 ≤ 29) ∨ (a2 = 0 ∧ (a1 < 0 ∨ 29 < a1))) (h4 : a2 = 0 ∨ a2 = 1) (h5 : ¬ (a2 = 0)) (h6 : a3 = 0 ∨ (a3 = 1 ∧ 0 ≤ a0 ∧ a0 ≤ 2 ∧ 0 ≤ a1 ∧ a1 ≤ 29 ∧ a9 = 1)) (h7 : a3 = 0 ∨ a3 = 1) (h8 : a3 = 0) (h9 : 0 ≤ a0 ∧ a0 ≤ 2 ∧ 0 ≤ a1 ∧ a1 ≤ 29 → a4 = 4 * (30 * a0 + a1)) (h10 : a5 = a4 + (1 : Int) ∨ a4 + (1 : Int) < -2147483648 ∨ 2147483648 ≤ a4 + (1 : Int)) (h11 : a6 = a4 + (2 : Int) ∨ a4 + (2 : Int) < -2147483648 ∨ 2147483648 ≤ a4 + (2 : Int)) (h12 : a7 = a4 + (3 : Int) ∨ a4 + (3 : Int) < -2147483648 ∨ 2147483648 ≤ a4 + (3 : Int)) (r0 : -2147483648 ≤ a0 ∧ a0 < 2147483648) (r1 : -2147483648 ≤ a1 ∧ a1 < 2147483648) (r2 : -2147483648 ≤ a2 ∧ a2 < 2147483648) (r3 : -2147483648 ≤ a3 ∧ a3 < 2147483648) (r4 : -2147483648 ≤ a4 ∧ a4 < 2147483648) (r5 : -2147483648 ≤ a5 ∧ a5 < 2147483648) (r6 : -2147483648 ≤ a6 ∧ a6 < 2147483648) (r7 : -2147483648 ≤ a7 ∧ a7 < 2147483648) (r8 : -2147483648 ≤ a8 ∧ a8 < 2147483648) : 0 ≤ a7 ∧ a7 < ((360 : Nat) : Int) := by first | (clear h0 h1 h2 h3 h4 h5 h6 h7 h9 h10 h11; omega) | (clear h0 h1 h2 h3 h4 h5 h6 h7; omega) | (clear h1 h2 h4 h5 h7; omega) | omega
theorem z_X11_put_6 (a0 : Int) (h0 : a0 = 0) (r0 : -2147483648 ≤ a0 ∧ a0 < 2147483648) : 0 ≤ a0 ∧ a0 ≤ 24 := by omega
theorem z_X11_put_7 (a0 : Int) (h0 : 0 ≤ a0 ∧ a0 ≤ 2400) (r0 : -2147483648 ≤ a0 ∧ a0 < 2147483648) : 0 ≤ a0 ∧ a0 ≤ 2400 := by omega
theorem z_X11_put_8 (a0 : Int) (a1 : Int) (h0 : 0 ≤ a0 ∧ a0 ≤ 24 ∧ 0 ≤ a1 ∧ a1 ≤ 2400) (r0 : -2147483648 ≤ a0 ∧ a0 < 2147483648) (r1 : -2147483648 ≤ a1 ∧ a1 < 2147483648) : 0 ≤ a0 ∧ a0 ≤ 24 ∧ 0 ≤ a1 ∧ a1 ≤ 2400 := by omega
theorem z_X11_put_9 (a0 : Int) (a1 : Int) (h0 : 0 ≤ a1 ∧ a1 ≤ 2400) (h1 : a0 = 0) (r0 : -2147483648 ≤ a0 ∧ a0 < 2147483648) (r1 : -2147483648 ≤ a1 ∧ a1 < 2147483648) : 0 ≤ a0 ∧ a0 ≤ 24 ∧ 0 ≤ a1 ∧ a1 ≤ 2400 := by omega
abbrev rm_X11_put : Room := { frames := 8, cells := 0, slots := 0, locals := 186 }
set_option maxHeartbeats 4000000 in
set_option maxRecDepth 100000 in
theorem c_X11_put (l : Launch) (E : XE) (K : Nat → Nat) (F : Nat → Nat → Nat) (tl z0 z1 z2 z3 z4 z5 z6 z7 z8 z9 z10 z11 z12 z13 z14 z15 z16 z17 z18 z19 z20 : Int32) (ar0 ar1 ar2 ar3 ar4 ar5 ar6 ar7 ar8 ar9 ar10 : Nat → Int32) (a : Nat) (p0 : Int32) (p1 : Int32) (p2 : Int32) (p3 : Int32) (p4 : Int32) (ha : K a = 13) (hR : RV ar1) (e0 : 0 ≤ z7.toInt ∧ z7.toInt ≤ 24) (e1 : 0 ≤ z12.toInt ∧ z12.toInt ≤ 2400) : Met l yX11_put (xw yX11_put cX11_put 7 (some .int)) rm_X11_put (va_Pc [.ref a, .int p0, .int p1, .int p2, .int p3, .int p4] (XP E K F (tl, [z0, z1, z2, z3, z4, z5, z6, z7, z8, z9, z10, z11, z12, z13, z14, z15, z16, z17, z18, z19, z20], [ar0, ar1, ar2, ar3, ar4, ar5, ar6, ar7, ar8, ar9, ar10]))) (XQ E (fun v (u : Int32 × Int32 × Int32 × Int32 × Int32 × Int32 × Int32 × Int32 × Int32 × Int32 × (Nat → Int32) × (Nat → Int32) × (Nat → Int32) × (Nat → Int32)) => ∃ r : Int32, v = .int r ∧ (0 ≤ u.2.2.2.2.2.1.toInt ∧ u.2.2.2.2.2.1.toInt ≤ 24 ∧ 0 ≤ u.2.2.2.2.2.2.1.toInt ∧ u.2.2.2.2.2.2.1.toInt ≤ 2400)) (fun u H => TW E K F (tl, [u.1, z1, z2, u.2.1, u.2.2.1, u.2.2.2.1, u.2.2.2.2.1, u.2.2.2.2.2.1, z8, z9, z10, z11, u.2.2.2.2.2.2.1, u.2.2.2.2.2.2.2.1, u.2.2.2.2.2.2.2.2.1, u.2.2.2.2.2.2.2.2.2.1, z16, z17, z18, z19, z20], [u.2.2.2.2.2.2.2.2.2.2.1, ar1, u.2.2.2.2.2.2.2.2.2.2.2.1, u.2.2.2.2.2.2.2.2.2.2.2.2.1, u.2.2.2.2.2.2.2.2.2.2.2.2.2, ar5, ar6, ar7, ar8, ar9, ar10]) [] H)) 0 0 (xA E) := by
  refine x_enter (by decide) (Nat.le_of_ble_eq_true rfl) ?_
  intro p e s m args below meth c Q S hr hlk hnm hQ hP ls hl
  obtain ⟨hz, hK, hT⟩ := hP
  obtain ⟨hx, hb, -, -, -⟩ := id S
  obtain ⟨H, hT, hS, hgo⟩ : ∃ H : Heap, TW E K F (tl, [z0, z1, z2, z3, z4, z5, z6, z7, z8, z9, z10, z11, z12, z13, z14, z15, z16, z17, z18, z19, z20], [ar0, ar1, ar2, ar3, ar4, ar5, ar6, ar7, ar8, ar9, ar10]) [] H ∧ va_S (xA E) s.heap H [] ∧ H = s.heap := ⟨_, hT, va_S.rf, rfl⟩
  rw [← hgo]
  have hl : lv_has ls 7 [(0, .ref a), (1, .int p0), (2, .int p1), (3, .int p2), (4, .int p3), (5, .int p4)] := hl
  refine lv_aload_n hx hb dX11_put_0 rfl (lv_at hl 0 rfl) ?_
  refine lv_iconst (v := 0) hx hb dX11_put_1 (by decide) ?_
  refine pX11_0 (kq := []) (v := 0) S hK hT hS ha kf_X11_134 (Nat.le_of_ble_eq_true rfl) dX11_put_2 (fun _ h => by cases h) (fun H locs hT hS => ?_)
  have hT : TW E K F (tl, [0, z1, z2, z3, z4, z5, z6, z7, z8, z9, z10, z11, z12, z13, z14, z15, z16, z17, z18, z19, z20], [ar0, ar1, ar2, ar3, ar4, ar5, ar6, ar7, ar8, ar9, ar10]) [] H := hT
  refine lv_aload_n hx hb dX11_put_5 rfl (lv_at hl 0 rfl) ?_
  refine x_cv0 (x_runV (b := a) (As := []) (rest := []) S (c_X11_nothing l E K F tl 0 z1 z2 z3 z4 z5 z6 z7 z8 z9 z10 z11 z12 z13 z14 z15 z16 z17 z18 z19 z20 ar0 ar1 ar2 ar3 ar4 ar5 ar6 ar7 ar8 ar9 ar10 a ha) mv_X11_nothing km_X11_231 rfl rfl ⟨Nat.le_of_ble_eq_true rfl, Nat.le_of_ble_eq_true rfl⟩ (rc_13 hK hT ha) hK (fun _ => XP.blind) (fun U hU hW => XP.at hK hz hS hT hU hW) rfl hl.1 (Nat.le_of_ble_eq_true rfl) dX11_put_6 ⟨Nat.le_of_ble_eq_true rfl, Nat.le_of_ble_eq_true rfl⟩) hS ?_
  rintro ⟨u1, u2, u3⟩ H locs t4 hT hS
  have hT : TW E K F (tl, [0, z1, z2, z3, z4, u1, u2, u3, z8, z9, z10, z11, z12, z13, z14, z15, z16, z17, z18, z19, z20], [ar0, ar1, ar2, ar3, ar4, ar5, ar6, ar7, ar8, ar9, ar10]) [] H := hT
  have t4 : u3.toInt = 0 := t4
  refine lv_iload_n hx hb dX11_put_9 rfl (lv_at hl 1 rfl) ?_
  refine x_clp (x_runS (As := [.int p0]) (rest := []) S (c_X11_isTable l E K F tl 0 z1 z2 z3 z4 u1 u2 u3 z8 z9 z10 z11 z12 z13 z14 z15 z16 z17 z18 z19 z20 ar0 ar1 ar2 ar3 ar4 ar5 ar6 ar7 ar8 ar9 ar10 H p0) ms_X11_isTable km_X11_149 rfl rfl ⟨Nat.le_of_ble_eq_true rfl, Nat.le_of_ble_eq_true rfl⟩ hK (fun _ => XPh.blind) (fun U hU hW => XPh.at hK hz hS hT hU hW) rfl hl.1 (Nat.le_of_ble_eq_true rfl) dX11_put_10 ⟨Nat.le_of_ble_eq_true rfl, Nat.le_of_ble_eq_true rfl⟩) hS ?_
  rintro _ _ locs ⟨x8, rfl, b9, t7⟩ hS
  have t7 : (x8.toInt = 1 ∧ 0 ≤ p0.toInt ∧ p0.toInt ≤ 2) ∨ (x8.toInt = 0 ∧ (p0.toInt < 0 ∨ 2 < p0.toInt)) := t7
  have J46 : ∀ (H : Heap) (locs : List Loc) (ls : Array Slot), TW E K F (tl, [0, z1, z2, z3, z4, u1, u2, u3, z8, z9, z10, z11, z12, z13, z14, z15, z16, z17, z18, z19, z20], [ar0, ar1, ar2, ar3, ar4, ar5, ar6, ar7, ar8, ar9, ar10]) [] H → va_S (xA E) s.heap H locs → lv_has ls 7 [(0, .ref a)] → W p l e rm_X11_put s m args below meth c H locs 0 0 Q (F0 m 46 ls []) := by
    intro H locs ls hT hS hl
    refine lv_aload_n hx hb dX11_put_46 rfl (lv_at hl 0 rfl) ?_
    refine lv_iconst (v := (-1)) hx hb dX11_put_47 (by decide) ?_
    refine x_cl0 (x_runV (b := a) (As := [.int (-1)]) (rest := []) S (c_X11_refuses l E K F tl 0 z1 z2 z3 z4 u1 u2 u3 z8 z9 z10 z11 z12 z13 z14 z15 z16 z17 z18 z19 z20 ar0 ar1 ar2 ar3 ar4 ar5 ar6 ar7 ar8 ar9 ar10 a (-1) ha) mv_X11_refuses km_X11_325 rfl rfl ⟨Nat.le_of_ble_eq_true rfl, Nat.le_of_ble_eq_true rfl⟩ (rc_13 hK hT ha) hK (fun _ => XP.blind) (fun U hU hW => XP.at hK hz hS hT hU hW) rfl hl.1 (Nat.le_of_ble_eq_true rfl) dX11_put_48 ⟨Nat.le_of_ble_eq_true rfl, Nat.le_of_ble_eq_true rfl⟩) hS ?_
    rintro _ _ H locs ⟨x10, rfl⟩ hT hS
    exact x_ri hx hb hr hlk hQ (Nat.le_of_ble_eq_true rfl) (Nat.le_of_ble_eq_true rfl) hS dX11_put_51 (0, z3, z4, u1, u2, u3, z12, z13, z14, z15, ar0, ar2, ar3, ar4) ⟨_, rfl, (z_X11_put_1 u3.toInt z12.toInt e1 t4 (xr u3) (xr z12))⟩ hT.nil
  refine xi_zeq (tgt := 46) hx hb (rfl : Int32.toInt x8 = x8.toInt) dX11_put_13 (by decide) (fun c12 => ?_) (fun c12 => ?_)
  · exact J46 _ _ _ hT.nil hS (lv_sub hl [0] rfl)
  · refine lv_iload_n hx hb dX11_put_16 rfl (lv_at hl 2 rfl) ?_
    refine x_clp (x_runS (As := [.int p1]) (rest := []) S (c_X11_isKey l E K F tl 0 z1 z2 z3 z4 u1 u2 u3 z8 z9 z10 z11 z12 z13 z14 z15 z16 z17 z18 z19 z20 ar0 ar1 ar2 ar3 ar4 ar5 ar6 ar7 ar8 ar9 ar10 H p1) ms_X11_isKey km_X11_153 rfl rfl ⟨Nat.le_of_ble_eq_true rfl, Nat.le_of_ble_eq_true rfl⟩ hK (fun _ => XPh.blind) (fun U hU hW => XPh.at hK hz hS hT hU hW) rfl hl.1 (Nat.le_of_ble_eq_true rfl) dX11_put_17 ⟨Nat.le_of_ble_eq_true rfl, Nat.le_of_ble_eq_true rfl⟩) hS ?_
    rintro _ _ locs ⟨x14, rfl, b15, t13⟩ hS
    have t13 : (x14.toInt = 1 ∧ 0 ≤ p1.toInt ∧ p1.toInt ≤ 29) ∨ (x14.toInt = 0 ∧ (p1.toInt < 0 ∨ 29 < p1.toInt)) := t13
    refine xi_zeq (tgt := 46) hx hb (rfl : Int32.toInt x14 = x14.toInt) dX11_put_20 (by decide) (fun c16 => ?_) (fun c16 => ?_)
    · exact J46 _ _ _ hT.nil hS (lv_sub hl [0] rfl)
    · refine lv_iload_n hx hb dX11_put_23 rfl (lv_at hl 3 rfl) ?_
      refine x_clp (x_runS (As := [.int p2]) (rest := []) S (c_X11_isValue l E K F tl 0 z1 z2 z3 z4 u1 u2 u3 z8 z9 z10 z11 z12 z13 z14 z15 z16 z17 z18 z19 z20 ar0 ar1 ar2 ar3 ar4 ar5 ar6 ar7 ar8 ar9 ar10 H p2) ms_X11_isValue km_X11_343 rfl rfl ⟨Nat.le_of_ble_eq_true rfl, Nat.le_of_ble_eq_true rfl⟩ hK (fun _ => XPh.blind) (fun U hU hW => XPh.at hK hz hS hT hU hW) rfl hl.1 (Nat.le_of_ble_eq_true rfl) dX11_put_24 ⟨Nat.le_of_ble_eq_true rfl, Nat.le_of_ble_eq_true rfl⟩) hS ?_
      rintro _ _ locs ⟨x17, rfl, b18⟩ hS
      refine xi_zeq (tgt := 46) hx hb (rfl : Int32.toInt x17 = x17.toInt) dX11_put_27 (by decide) (fun c19 => ?_) (fun c19 => ?_)
      · exact J46 _ _ _ hT.nil hS (lv_sub hl [0] rfl)
      · refine lv_iload hx hb dX11_put_30 (lv_at hl 4 rfl) ?_
        refine x_clp (x_runS (As := [.int p3]) (rest := []) S (c_X11_isValue l E K F tl 0 z1 z2 z3 z4 u1 u2 u3 z8 z9 z10 z11 z12 z13 z14 z15 z16 z17 z18 z19 z20 ar0 ar1 ar2 ar3 ar4 ar5 ar6 ar7 ar8 ar9 ar10 H p3) ms_X11_isValue km_X11_343 rfl rfl ⟨Nat.le_of_ble_eq_true rfl, Nat.le_of_ble_eq_true rfl⟩ hK (fun _ => XPh.blind) (fun U hU hW => XPh.at hK hz hS hT hU hW) rfl hl.1 (Nat.le_of_ble_eq_true rfl) dX11_put_32 ⟨Nat.le_of_ble_eq_true rfl, Nat.le_of_ble_eq_true rfl⟩) hS ?_
        rintro _ _ locs ⟨x20, rfl, b21⟩ hS
        refine xi_zeq (tgt := 46) hx hb (rfl : Int32.toInt x20 = x20.toInt) dX11_put_35 (by decide) (fun c22 => ?_) (fun c22 => ?_)
        · exact J46 _ _ _ hT.nil hS (lv_sub hl [0] rfl)
        · refine lv_iload hx hb dX11_put_38 (lv_at hl 5 rfl) ?_
          refine x_clp (x_runS (As := [.int p4]) (rest := []) S (c_X11_isValue l E K F tl 0 z1 z2 z3 z4 u1 u2 u3 z8 z9 z10 z11 z12 z13 z14 z15 z16 z17 z18 z19 z20 ar0 ar1 ar2 ar3 ar4 ar5 ar6 ar7 ar8 ar9 ar10 H p4) ms_X11_isValue km_X11_343 rfl rfl ⟨Nat.le_of_ble_eq_true rfl, Nat.le_of_ble_eq_true rfl⟩ hK (fun _ => XPh.blind) (fun U hU hW => XPh.at hK hz hS hT hU hW) rfl hl.1 (Nat.le_of_ble_eq_true rfl) dX11_put_40 ⟨Nat.le_of_ble_eq_true rfl, Nat.le_of_ble_eq_true rfl⟩) hS ?_
          rintro _ _ locs ⟨x23, rfl, b24⟩ hS
          refine xi_zne (tgt := 52) hx hb (rfl : Int32.toInt x23 = x23.toInt) dX11_put_43 (by decide) (fun c25 => ?_) (fun c25 => ?_)
          · refine lv_aload_n hx hb dX11_put_52 rfl (lv_at hl 0 rfl) ?_
            refine lv_iload_n hx hb dX11_put_53 rfl (lv_at hl 1 rfl) ?_
            refine lv_iload_n hx hb dX11_put_54 rfl (lv_at hl 2 rfl) ?_
            refine x_clp (x_runV (b := a) (As := [.int p0, .int p1]) (rest := []) S (c_X11_isRow l E K F tl 0 z1 z2 z3 z4 u1 u2 u3 z8 z9 z10 z11 z12 z13 z14 z15 z16 z17 z18 z19 z20 ar0 ar1 ar2 ar3 ar4 ar5 ar6 ar7 ar8 ar9 ar10 H a p0 p1 ha) mv_X11_isRow km_X11_346 rfl rfl ⟨Nat.le_of_ble_eq_true rfl, Nat.le_of_ble_eq_true rfl⟩ (rc_13 hK hT ha) hK (fun _ => XPh.blind) (fun U hU hW => XPh.at hK hz hS hT hU hW) rfl hl.1 (Nat.le_of_ble_eq_true rfl) dX11_put_55 ⟨Nat.le_of_ble_eq_true rfl, Nat.le_of_ble_eq_true rfl⟩) hS ?_
            rintro _ _ locs ⟨x27, rfl, b28, t26⟩ hS
            have t26 : x27.toInt = 0 ∨ (x27.toInt = 1 ∧ 0 ≤ p0.toInt ∧ p0.toInt ≤ 2 ∧ 0 ≤ p1.toInt ∧ p1.toInt ≤ 29 ∧ (aI ar0 (4 * (30 * p0.toInt + p1.toInt))) = 1) := t26
            refine xi_zeq (tgt := 68) hx hb (rfl : Int32.toInt x27 = x27.toInt) dX11_put_58 (by decide) (fun c29 => ?_) (fun c29 => ?_)
            · refine lv_aload_n hx hb dX11_put_68 rfl (lv_at hl 0 rfl) ?_
              refine x_cv0 (x_runV (b := a) (As := []) (rest := []) S (c_X11_start l E K F tl 0 z1 z2 z3 z4 u1 u2 u3 z8 z9 z10 z11 z12 z13 z14 z15 z16 z17 z18 z19 z20 ar0 ar1 ar2 ar3 ar4 ar5 ar6 ar7 ar8 ar9 ar10 a ha hR) mv_X11_start km_X11_350 rfl rfl ⟨Nat.le_of_ble_eq_true rfl, Nat.le_of_ble_eq_true rfl⟩ (rc_13 hK hT ha) hK (fun _ => XP.blind) (fun U hU hW => XP.at hK hz hS hT hU hW) rfl hl.1 (Nat.le_of_ble_eq_true rfl) dX11_put_69 ⟨Nat.le_of_ble_eq_true rfl, Nat.le_of_ble_eq_true rfl⟩) hS ?_
              rintro _ H locs - hT hS
              refine lv_iload_n hx hb dX11_put_72 rfl (lv_at hl 1 rfl) ?_
              refine lv_iload_n hx hb dX11_put_73 rfl (lv_at hl 2 rfl) ?_
              refine x_clp (x_runS (As := [.int p0, .int p1]) (rest := []) S (c_X11_at l E K F tl 0 z1 z2 z3 z4 u1 u2 u3 z8 z9 z10 z11 z12 z13 z14 z15 z16 z17 z18 z19 z20 ar0 ar1 ar2 ar3 ar4 ar5 ar6 ar7 ar8 ar9 ar10 H p0 p1) ms_X11_at km_X11_156 rfl rfl ⟨Nat.le_of_ble_eq_true rfl, Nat.le_of_ble_eq_true rfl⟩ hK (fun _ => XPh.blind) (fun U hU hW => XPh.at hK hz hS hT hU hW) rfl hl.1 (Nat.le_of_ble_eq_true rfl) dX11_put_74 ⟨Nat.le_of_ble_eq_true rfl, Nat.le_of_ble_eq_true rfl⟩) hS ?_
              rintro _ _ locs ⟨x33, rfl, t32⟩ hS
              have t32 : 0 ≤ p0.toInt ∧ p0.toInt ≤ 2 ∧ 0 ≤ p1.toInt ∧ p1.toInt ≤ 29 → x33.toInt = 4 * (30 * p0.toInt + p1.toInt) := t32
              refine lv_istore (lv' := [(6, .int x33), (0, .ref a), (1, .int p0), (2, .int p1), (3, .int p2), (4, .int p3), (5, .int p4)]) hx hb dX11_put_77 hl (by decide) rfl (fun ls hl => ?_)
              refine lv_aload_n hx hb dX11_put_79 rfl (lv_at hl 1 rfl) ?_
              refine gX11_1 S hK hT ha kf_X11_9 dX11_put_80 (fun hk35 => ?_)
              refine lv_iload hx hb dX11_put_83 (lv_at hl 0 rfl) ?_
              refine lv_iconst (v := 1) hx hb dX11_put_85 (by decide) ?_
              refine tst_0 S hK hT hS hk35 (at_30 (f := ar0) rfl) (fun _ => bt_30 (Nat.le_of_ble_eq_true rfl)) (by decide) (by decide) xti_30 (z_X11_put_2 p0.toInt p1.toInt x14.toInt x27.toInt x33.toInt x8.toInt (aI ar0 (4 * (30 * p0.toInt + p1.toInt))) t7 (xbz b9) c12 t13 (xbz b15) c16 t26 (xbz b28) c29 t32 (xr p0) (xr p1) (xr x14) (xr x27) (xr x33) (xr x8)) dX11_put_86 (fun f36 H locs hu37 hT hS => ?_)
              have hT : TW E K F (tl, [0, z1, z2, z3, z4, u1, u2, u3, z8, z9, z10, z11, z12, z13, z14, z15, z16, z17, z18, z19, z20], [f36, ar1, ar2, ar3, ar4, ar5, ar6, ar7, ar8, ar9, ar10]) [] H := hT
              have hu37 : ∀ z : Int, 0 ≤ z → aI f36 z = if z = x33.toInt then (1 : Int) else aI ar0 z := fun z h9 => by have h8 := hu37 z h9; rw [show Int32.toInt 1 = (1 : Int) from by decide] at h8; exact h8
              refine lv_aload_n hx hb dX11_put_87 rfl (lv_at hl 1 rfl) ?_
              refine gX11_1 S hK hT ha kf_X11_9 dX11_put_88 (fun hk38 => ?_)
              refine lv_iload hx hb dX11_put_91 (lv_at hl 0 rfl) ?_
              refine lv_iconst (v := 1) hx hb dX11_put_93 (by decide) ?_
              refine xi_iadd hx hb (rfl : Int32.toInt x33 = x33.toInt) ((by decide) : Int32.toInt 1 = (1 : Int)) dX11_put_94 (fun x39 t40 => ?_)
              refine lv_iload_n hx hb dX11_put_95 rfl (lv_at hl 4 rfl) ?_
              refine tst_0 S hK hT hS hk38 (at_30 (f := f36) rfl) (fun _ => bt_30 (Nat.le_of_ble_eq_true rfl)) (by decide) (by decide) xti_30 (z_X11_put_3 p0.toInt p1.toInt x14.toInt x27.toInt x33.toInt x39.toInt x8.toInt (aI ar0 (4 * (30 * p0.toInt + p1.toInt))) t7 (xbz b9) c12 t13 (xbz b15) c16 t26 (xbz b28) c29 t32 t40 (xr p0) (xr p1) (xr x14) (xr x27) (xr x33) (xr x39) (xr x8)) dX11_put_96 (fun f41 H locs hu42 hT hS => ?_)
              have hT : TW E K F (tl, [0, z1, z2, z3, z4, u1, u2, u3, z8, z9, z10, z11, z12, z13, z14, z15, z16, z17, z18, z19, z20], [f41, ar1, ar2, ar3, ar4, ar5, ar6, ar7, ar8, ar9, ar10]) [] H := hT
              refine lv_aload_n hx hb dX11_put_97 rfl (lv_at hl 1 rfl) ?_
              refine gX11_1 S hK hT ha kf_X11_9 dX11_put_98 (fun hk43 => ?_)
              refine lv_iload hx hb dX11_put_101 (lv_at hl 0 rfl) ?_
              refine lv_iconst (v := 2) hx hb dX11_put_103 (by decide) ?_
              refine xi_iadd hx hb (rfl : Int32.toInt x33 = x33.toInt) ((by decide) : Int32.toInt 2 = (2 : Int)) dX11_put_104 (fun x44 t45 => ?_)
              refine lv_iload hx hb dX11_put_105 (lv_at hl 5 rfl) ?_
              refine tst_0 S hK hT hS hk43 (at_30 (f := f41) rfl) (fun _ => bt_30 (Nat.le_of_ble_eq_true rfl)) (by decide) (by decide) xti_30 (z_X11_put_4 p0.toInt p1.toInt x14.toInt x27.toInt x33.toInt x39.toInt x44.toInt x8.toInt (aI ar0 (4 * (30 * p0.toInt + p1.toInt))) t7 (xbz b9) c12 t13 (xbz b15) c16 t26 (xbz b28) c29 t32 t40 t45 (xr p0) (xr p1) (xr x14) (xr x27) (xr x33) (xr x39) (xr x44) (xr x8)) dX11_put_107 (fun f46 H locs hu47 hT hS => ?_)
              have hT : TW E K F (tl, [0, z1, z2, z3, z4, u1, u2, u3, z8, z9, z10, z11, z12, z13, z14, z15, z16, z17, z18, z19, z20], [f46, ar1, ar2, ar3, ar4, ar5, ar6, ar7, ar8, ar9, ar10]) [] H := hT
              refine lv_aload_n hx hb dX11_put_108 rfl (lv_at hl 1 rfl) ?_
              refine gX11_1 S hK hT ha kf_X11_9 dX11_put_109 (fun hk48 => ?_)
              refine lv_iload hx hb dX11_put_112 (lv_at hl 0 rfl) ?_
              refine lv_iconst (v := 3) hx hb dX11_put_114 (by decide) ?_
              refine xi_iadd hx hb (rfl : Int32.toInt x33 = x33.toInt) ((by decide) : Int32.toInt 3 = (3 : Int)) dX11_put_115 (fun x49 t50 => ?_)
              refine lv_iload hx hb dX11_put_116 (lv_at hl 6 rfl) ?_
              refine tst_0 S hK hT hS hk48 (at_30 (f := f46) rfl) (fun _ => bt_30 (Nat.le_of_ble_eq_true rfl)) (by decide) (by decide) xti_30 (z_X11_put_5 p0.toInt p1.toInt x14.toInt x27.toInt x33.toInt x39.toInt x44.toInt x49.toInt x8.toInt (aI ar0 (4 * (30 * p0.toInt + p1.toInt))) t7 (xbz b9) c12 t13 (xbz b15) c16 t26 (xbz b28) c29 t32 t40 t45 t50 (xr p0) (xr p1) (xr x14) (xr x27) (xr x33) (xr x39) (xr x44) (xr x49) (xr x8)) dX11_put_118 (fun f51 H locs hu52 hT hS => ?_)
              have hT : TW E K F (tl, [0, z1, z2, z3, z4, u1, u2, u3, z8, z9, z10, z11, z12, z13, z14, z15, z16, z17, z18, z19, z20], [f51, ar1, ar2, ar3, ar4, ar5, ar6, ar7, ar8, ar9, ar10]) [] H := hT
              refine lv_aload_n hx hb dX11_put_119 rfl (lv_at hl 1 rfl) ?_
              refine x_cl0 (x_runV (b := a) (As := []) (rest := []) S (c_X11_settles l E K F tl 0 z1 z2 z3 z4 u1 u2 u3 z8 z9 z10 z11 z12 z13 z14 z15 z16 z17 z18 z19 z20 f51 ar1 ar2 ar3 ar4 ar5 ar6 ar7 ar8 ar9 ar10 a ha hR (z_X11_put_6 u3.toInt t4 (xr u3)) (z_X11_put_7 z12.toInt e1 (xr z12))) mv_X11_settles km_X11_353 rfl rfl ⟨Nat.le_of_ble_eq_true rfl, Nat.le_of_ble_eq_true rfl⟩ (rc_13 hK hT ha) hK (fun _ => XP.blind) (fun U hU hW => XP.at hK hz hS hT hU hW) rfl hl.1 (Nat.le_of_ble_eq_true rfl) dX11_put_120 ⟨Nat.le_of_ble_eq_true rfl, Nat.le_of_ble_eq_true rfl⟩) hS ?_
              rintro _ ⟨u53, u54, u55, u56, u57, u58, u59, u60, u61, f62, f63, f64, f65⟩ H locs ⟨x67, rfl, t66⟩ hT hS
              have hT : TW E K F (tl, [0, z1, z2, u53, u54, u55, u56, u57, z8, z9, z10, z11, u58, u59, u60, u61, z16, z17, z18, z19, z20], [f62, ar1, f63, f64, f65, ar5, ar6, ar7, ar8, ar9, ar10]) [] H := hT
              have t66 : 0 ≤ u57.toInt ∧ u57.toInt ≤ 24 ∧ 0 ≤ u58.toInt ∧ u58.toInt ≤ 2400 := t66
              exact x_ri hx hb hr hlk hQ (Nat.le_of_ble_eq_true rfl) (Nat.le_of_ble_eq_true rfl) hS dX11_put_123 (0, u53, u54, u55, u56, u57, u58, u59, u60, u61, f62, f63, f64, f65) ⟨_, rfl, (z_X11_put_8 u57.toInt u58.toInt t66 (xr u57) (xr u58))⟩ hT.nil
            · refine lv_aload_n hx hb dX11_put_61 rfl (lv_at hl 0 rfl) ?_
              refine lv_bipush (v := (-4)) hx hb dX11_put_62 (by decide) ?_
              refine x_cl0 (x_runV (b := a) (As := [.int (-4)]) (rest := []) S (c_X11_refuses l E K F tl 0 z1 z2 z3 z4 u1 u2 u3 z8 z9 z10 z11 z12 z13 z14 z15 z16 z17 z18 z19 z20 ar0 ar1 ar2 ar3 ar4 ar5 ar6 ar7 ar8 ar9 ar10 a (-4) ha) mv_X11_refuses km_X11_325 rfl rfl ⟨Nat.le_of_ble_eq_true rfl, Nat.le_of_ble_eq_true rfl⟩ (rc_13 hK hT ha) hK (fun _ => XP.blind) (fun U hU hW => XP.at hK hz hS hT hU hW) rfl hl.1 (Nat.le_of_ble_eq_true rfl) dX11_put_64 ⟨Nat.le_of_ble_eq_true rfl, Nat.le_of_ble_eq_true rfl⟩) hS ?_
              rintro _ _ H locs ⟨x69, rfl⟩ hT hS
              exact x_ri hx hb hr hlk hQ (Nat.le_of_ble_eq_true rfl) (Nat.le_of_ble_eq_true rfl) hS dX11_put_67 (0, z3, z4, u1, u2, u3, z12, z13, z14, z15, ar0, ar2, ar3, ar4) ⟨_, rfl, (z_X11_put_9 u3.toInt z12.toInt e1 t4 (xr u3) (xr z12))⟩ hT.nil
          · exact J46 _ _ _ hT.nil hS (lv_sub hl [0] rfl)
