theorem z_X11_sign_1 (a0 : Int) (a1 : Int) (a2 : Int) (a3 : Int) (h0 : 8 * a2 = 8 * a3 + 24 - a1 ∧ -8 ≤ a1 ∧ a1 ≤ 24) (h1 : a1 ≤ (24 : Int)) (h2 : 0 ≤ a3 ∧ a3 ≤ 80) (h3 : a0 = a3 + (4 : Int) ∨ a3 + (4 : Int) < -2147483648 ∨ 2147483648 ≤ a3 + (4 : Int)) (h4 : a0 ≤ (80 : Int)) (r0 : -2147483648 ≤ a0 ∧ a0 < 2147483648) (r1 : -2147483648 ≤ a1 ∧ a1 < 2147483648) (r2 : -2147483648 ≤ a2 ∧ a2 < 2147483648) (r3 : -2147483648 ≤ a3 ∧ a3 < 2147483648) : ¬ (2147483648 + a1 < ((0 : Nat) : Int)) := by first | (clear h3; omega) | omega
theorem z_X11_sign_2 (a0 : Int) (a1 : Int) (a2 : Int) (a3 : Int) (a4 : Nat) (h0 : 0 ≤ a3 ∧ a3 ≤ 80) (h1 : a0 = a3 + (4 : Int) ∨ a3 + (4 : Int) < -2147483648 ∨ 2147483648 ≤ a3 + (4 : Int)) (h2 : a0 ≤ (80 : Int)) (h3 : 8 * a2 = 8 * a3 + 24 - a1 ∧ -8 ≤ a1 ∧ a1 ≤ 24) (h4 : a1 ≤ (24 : Int)) (h5 : 2147483648 + a1 < ((a4 + 1 : Nat) : Int)) (h6 : a1 < 0) (r0 : -2147483648 ≤ a0 ∧ a0 < 2147483648) (r1 : -2147483648 ≤ a1 ∧ a1 < 2147483648) (r2 : -2147483648 ≤ a2 ∧ a2 < 2147483648) (r3 : -2147483648 ≤ a3 ∧ a3 < 2147483648) : (a3 + 4 ≤ 80 ∧ a2 = a3 + 4 ∧ a2 = a3 + 4) ∨ (80 < a3 + 4 ∧ a2 = -1 ∧ a2 = a3) := by omega
theorem z_X11_sign_3 (a0 : Int) (a1 : Int) (a2 : Int) (a3 : Int) (a4 : Nat) (h0 : 0 ≤ a3 ∧ a3 ≤ 80) (h1 : a0 = a3 + (4 : Int) ∨ a3 + (4 : Int) < -2147483648 ∨ 2147483648 ≤ a3 + (4 : Int)) (h2 : a0 ≤ (80 : Int)) (h3 : 8 * a2 = 8 * a3 + 24 - a1 ∧ -8 ≤ a1 ∧ a1 ≤ 24) (h4 : a1 ≤ (24 : Int)) (h5 : 2147483648 + a1 < ((a4 + 1 : Nat) : Int)) (h6 : ¬ (a1 < 0)) (r0 : -2147483648 ≤ a0 ∧ a0 < 2147483648) (r1 : -2147483648 ≤ a1 ∧ a1 < 2147483648) (r2 : -2147483648 ≤ a2 ∧ a2 < 2147483648) (r3 : -2147483648 ≤ a3 ∧ a3 < 2147483648) : 0 ≤ a2 ∧ a2 < ((80 : Nat) : Int) := by first | (clear h1; omega) | omega
theorem z_X11_sign_4 (a0 : Int) (a1 : Int) (a2 : Int) (a3 : Int) (a4 : Int) (a5 : Int) (a6 : Nat) (h0 : 0 ≤ a5 ∧ a5 ≤ 80) (h1 : a0 = a5 + (4 : Int) ∨ a5 + (4 : Int) < -2147483648 ∨ 2147483648 ≤ a5 + (4 : Int)) (h2 : a0 ≤ (80 : Int)) (h3 : 8 * a4 = 8 * a5 + 24 - a3 ∧ -8 ≤ a3 ∧ a3 ≤ 24) (h4 : a3 ≤ (24 : Int)) (h5 : 2147483648 + a3 < ((a6 + 1 : Nat) : Int)) (h6 : ¬ (a3 < 0)) (h7 : a1 = a4 + (1 : Int) ∨ a4 + (1 : Int) < -2147483648 ∨ 2147483648 ≤ a4 + (1 : Int)) (h8 : a2 = a3 + (-8) ∨ a3 + (-8) < -2147483648 ∨ 2147483648 ≤ a3 + (-8)) (r0 : -2147483648 ≤ a0 ∧ a0 < 2147483648) (r1 : -2147483648 ≤ a1 ∧ a1 < 2147483648) (r2 : -2147483648 ≤ a2 ∧ a2 < 2147483648) (r3 : -2147483648 ≤ a3 ∧ a3 < 2147483648) (r4 : -2147483648 ≤ a4 ∧ a4 < 2147483648) (r5 : -2147483648 ≤ a5 ∧ a5 < 2147483648) : 8 * a1 = 8 * a5 + 24 - a2 ∧ -8 ≤ a2 ∧ a2 ≤ 24 := by omega
theorem z_X11_sign_5 (a0 : Int) (a1 : Int) (a2 : Int) (a3 : Int) (a4 : Int) (a5 : Int) (a6 : Nat) (h0 : 0 ≤ a5 ∧ a5 ≤ 80) (h1 : a0 = a5 + (4 : Int) ∨ a5 + (4 : Int) < -2147483648 ∨ 2147483648 ≤ a5 + (4 : Int)) (h2 : a0 ≤ (80 : Int)) (h3 : 8 * a4 = 8 * a5 + 24 - a3 ∧ -8 ≤ a3 ∧ a3 ≤ 24) (h4 : a3 ≤ (24 : Int)) (h5 : 2147483648 + a3 < ((a6 + 1 : Nat) : Int)) (h6 : ¬ (a3 < 0)) (h7 : a1 = a4 + (1 : Int) ∨ a4 + (1 : Int) < -2147483648 ∨ 2147483648 ≤ a4 + (1 : Int)) (h8 : a2 = a3 + (-8) ∨ a3 + (-8) < -2147483648 ∨ 2147483648 ≤ a3 + (-8)) (r0 : -2147483648 ≤ a0 ∧ a0 < 2147483648) (r1 : -2147483648 ≤ a1 ∧ a1 < 2147483648) (r2 : -2147483648 ≤ a2 ∧ a2 < 2147483648) (r3 : -2147483648 ≤ a3 ∧ a3 < 2147483648) (r4 : -2147483648 ≤ a4 ∧ a4 < 2147483648) (r5 : -2147483648 ≤ a5 ∧ a5 < 2147483648) : a2 ≤ (24 : Int) := by first | (clear h1 h7; omega) | omega
theorem z_X11_sign_6 (a0 : Int) (a1 : Int) (a2 : Int) (a3 : Int) (a4 : Int) (a5 : Int) (a6 : Nat) (h0 : 0 ≤ a5 ∧ a5 ≤ 80) (h1 : a0 = a5 + (4 : Int) ∨ a5 + (4 : Int) < -2147483648 ∨ 2147483648 ≤ a5 + (4 : Int)) (h2 : a0 ≤ (80 : Int)) (h3 : 8 * a4 = 8 * a5 + 24 - a3 ∧ -8 ≤ a3 ∧ a3 ≤ 24) (h4 : a3 ≤ (24 : Int)) (h5 : 2147483648 + a3 < ((a6 + 1 : Nat) : Int)) (h6 : ¬ (a3 < 0)) (h7 : a1 = a4 + (1 : Int) ∨ a4 + (1 : Int) < -2147483648 ∨ 2147483648 ≤ a4 + (1 : Int)) (h8 : a2 = a3 + (-8) ∨ a3 + (-8) < -2147483648 ∨ 2147483648 ≤ a3 + (-8)) (r0 : -2147483648 ≤ a0 ∧ a0 < 2147483648) (r1 : -2147483648 ≤ a1 ∧ a1 < 2147483648) (r2 : -2147483648 ≤ a2 ∧ a2 < 2147483648) (r3 : -2147483648 ≤ a3 ∧ a3 < 2147483648) (r4 : -2147483648 ≤ a4 ∧ a4 < 2147483648) (r5 : -2147483648 ≤ a5 ∧ a5 < 2147483648) : 2147483648 + a2 < ((a6 : Nat) : Int) := by first | (clear h1 h7; omega) | omega
theorem z_X11_sign_7 (a0 : Int) (a1 : Int) (h0 : 0 ≤ a1 ∧ a1 ≤ 80) (h1 : a0 = a1 + (4 : Int) ∨ a1 + (4 : Int) < -2147483648 ∨ 2147483648 ≤ a1 + (4 : Int)) (h2 : a0 ≤ (80 : Int)) (r0 : -2147483648 ≤ a0 ∧ a0 < 2147483648) (r1 : -2147483648 ≤ a1 ∧ a1 < 2147483648) : 8 * a1 = 8 * a1 + 24 - (24 : Int) ∧ -8 ≤ (24 : Int) ∧ (24 : Int) ≤ 24 := by omega
theorem z_X11_sign_8 (a0 : Int) (a1 : Int) (h0 : 0 ≤ a1 ∧ a1 ≤ 80) (h1 : a0 = a1 + (4 : Int) ∨ a1 + (4 : Int) < -2147483648 ∨ 2147483648 ≤ a1 + (4 : Int)) (h2 : ¬ (a0 ≤ (80 : Int))) (r0 : -2147483648 ≤ a0 ∧ a0 < 2147483648) (r1 : -2147483648 ≤ a1 ∧ a1 < 2147483648) : (a1 + 4 ≤ 80 ∧ (-1 : Int) = a1 + 4 ∧ a1 = a1 + 4) ∨ (80 < a1 + 4 ∧ (-1 : Int) = -1 ∧ a1 = a1) := by omega
abbrev rm_X11_sign : Room := { frames := 0, cells := 0, slots := 0, locals := 0 }
set_option maxHeartbeats 4000000 in
set_option maxRecDepth 100000 in
theorem c_X11_sign (l : Launch) (E : XE) (K : Nat → Nat) (F : Nat → Nat → Nat) (tl z0 z1 z2 z3 z4 z5 z6 z7 z8 z9 z10 z11 z12 z13 z14 z15 z16 z17 z18 z19 z20 : Int32) (ar0 ar1 ar2 ar3 ar4 ar5 ar6 ar7 ar8 ar9 ar10 : Nat → Int32) (a : Nat) (p0 : Int32) (ha : K a = 13) (e0 : 0 ≤ z8.toInt ∧ z8.toInt ≤ 80) : Met l yX11_sign (xw yX11_sign cX11_sign 3 (some .int)) rm_X11_sign (va_Pc [.ref a, .int p0] (XP E K F (tl, [z0, z1, z2, z3, z4, z5, z6, z7, z8, z9, z10, z11, z12, z13, z14, z15, z16, z17, z18, z19, z20], [ar0, ar1, ar2, ar3, ar4, ar5, ar6, ar7, ar8, ar9, ar10]))) (XQ E (fun v (u : Int32 × Int32) => ∃ r : Int32, v = .int r ∧ ((z8.toInt + 4 ≤ 80 ∧ r.toInt = z8.toInt + 4 ∧ u.2.toInt = z8.toInt + 4) ∨ (80 < z8.toInt + 4 ∧ r.toInt = -1 ∧ u.2.toInt = z8.toInt))) (fun u H => TW E K F (tl, [u.1, z1, z2, z3, z4, z5, z6, z7, u.2, z9, z10, z11, z12, z13, z14, z15, z16, z17, z18, z19, z20], [ar0, ar1, ar2, ar3, ar4, ar5, ar6, ar7, ar8, ar9, ar10]) [] H)) 0 0 (xA E) := by
  refine x_enter (by decide) (Nat.le_of_ble_eq_true rfl) ?_
  intro p e s m args below meth c Q S hr hlk hnm hQ hP ls hl
  obtain ⟨hz, hK, hT⟩ := hP
  obtain ⟨hx, hb, -, -, -⟩ := id S
  obtain ⟨H, hT, hS, hgo⟩ : ∃ H : Heap, TW E K F (tl, [z0, z1, z2, z3, z4, z5, z6, z7, z8, z9, z10, z11, z12, z13, z14, z15, z16, z17, z18, z19, z20], [ar0, ar1, ar2, ar3, ar4, ar5, ar6, ar7, ar8, ar9, ar10]) [] H ∧ va_S (xA E) s.heap H [] ∧ H = s.heap := ⟨_, hT, va_S.rf, rfl⟩
  rw [← hgo]
  have hl : lv_has ls 3 [(0, .ref a), (1, .int p0)] := hl
  refine lv_aload_n hx hb dX11_sign_0 rfl (lv_at hl 0 rfl) ?_
  refine lv_iconst (v := 0) hx hb dX11_sign_1 (by decide) ?_
  refine pX11_0 (kq := []) (v := 0) S hK hT hS ha kf_X11_134 (Nat.le_of_ble_eq_true rfl) dX11_sign_2 (fun _ h => by cases h) (fun H locs hT hS => ?_)
  have hT : TW E K F (tl, [0, z1, z2, z3, z4, z5, z6, z7, z8, z9, z10, z11, z12, z13, z14, z15, z16, z17, z18, z19, z20], [ar0, ar1, ar2, ar3, ar4, ar5, ar6, ar7, ar8, ar9, ar10]) [] H := hT
  refine lv_aload_n hx hb dX11_sign_5 rfl (lv_at hl 0 rfl) ?_
  refine gX11_36 S hK hT ha kf_X11_245 dX11_sign_6 (v := z8) rfl ?_
  refine lv_iconst (v := 4) hx hb dX11_sign_9 (by decide) ?_
  refine xi_iadd hx hb (rfl : Int32.toInt z8 = z8.toInt) ((by decide) : Int32.toInt 4 = (4 : Int)) dX11_sign_10 (fun x1 t2 => ?_)
  refine lv_bipush (v := 80) hx hb dX11_sign_11 (by decide) ?_
  refine xi_cle (tgt := 18) hx hb (rfl : Int32.toInt x1 = x1.toInt) ((by decide) : Int32.toInt 80 = (80 : Int)) dX11_sign_13 (by decide) (fun c3 => ?_) (fun c3 => ?_)
  · refine lv_bipush (v := 24) hx hb dX11_sign_18 (by decide) ?_
    refine lv_istore_n (lv' := [(2, .int 24), (0, .ref a), (1, .int p0)]) hx hb dX11_sign_20 rfl hl (by decide) rfl (fun ls hl => ?_)
    have L21 : ∀ (N6 : Nat) (x4 : Int32) (x5 : Int32) (H : Heap) (locs : List Loc) (ls : Array Slot), 8 * x5.toInt = 8 * z8.toInt + 24 - x4.toInt ∧ -8 ≤ x4.toInt ∧ x4.toInt ≤ 24 → x4.toInt ≤ (24 : Int) → 2147483648 + x4.toInt < ((N6 : Nat) : Int) → TW E K F (tl, [0, z1, z2, z3, z4, z5, z6, z7, x5, z9, z10, z11, z12, z13, z14, z15, z16, z17, z18, z19, z20], [ar0, ar1, ar2, ar3, ar4, ar5, ar6, ar7, ar8, ar9, ar10]) [] H → va_S (xA E) s.heap H locs → lv_has ls 3 [(0, .ref a), (1, .int p0), (2, .int x4)] → W p l e rm_X11_sign s m args below meth c H locs 0 0 Q (F0 m 21 ls []) := by
      intro N6
      induction N6 with
      | zero =>
        intro x4 x5 H locs ls hf7 hf8 hm9
        exact absurd hm9 (z_X11_sign_1 x1.toInt x4.toInt x5.toInt z8.toInt hf7 hf8 e0 t2 c3 (xr x1) (xr x4) (xr x5) (xr z8))
      | succ N6 ih10 =>
        intro x4 x5 H locs ls hf7 hf8 hm9 hT hS hl
        refine lv_iload_n hx hb dX11_sign_21 rfl (lv_at hl 2 rfl) ?_
        refine xi_zlt (tgt := 54) hx hb (rfl : Int32.toInt x4 = x4.toInt) dX11_sign_22 (by decide) (fun c11 => ?_) (fun c11 => ?_)
        · refine lv_aload_n hx hb dX11_sign_54 rfl (lv_at hl 0 rfl) ?_
          refine gX11_36 S hK hT ha kf_X11_245 dX11_sign_55 (v := x5) rfl ?_
          exact x_ri hx hb hr hlk hQ (Nat.le_of_ble_eq_true rfl) (Nat.le_of_ble_eq_true rfl) hS dX11_sign_58 (0, x5) ⟨_, rfl, (z_X11_sign_2 x1.toInt x4.toInt x5.toInt z8.toInt N6 e0 t2 c3 hf7 hf8 hm9 c11 (xr x1) (xr x4) (xr x5) (xr z8))⟩ hT.nil
        · refine lv_aload_n hx hb dX11_sign_25 rfl (lv_at hl 0 rfl) ?_
          refine gX11_35 S hK hT ha kf_X11_103 dX11_sign_26 (fun hk12 => ?_)
          refine lv_aload_n hx hb dX11_sign_29 rfl (lv_at hl 0 rfl) ?_
          refine gX11_36 S hK hT ha kf_X11_245 dX11_sign_30 (v := x5) rfl ?_
          refine lv_iload_n hx hb dX11_sign_33 rfl (lv_at hl 1 rfl) ?_
          refine lv_iload_n hx hb dX11_sign_34 rfl (lv_at hl 2 rfl) ?_
          refine lv_iushr hx hb dX11_sign_35 rfl (lv_topi (fun x13 _ => ?_))
          refine lv_i2b hx hb dX11_sign_36 rfl (lv_topi (fun x14 _ => ?_))
          refine as_2 S hK hT hS hk12 ar_51 aw_51 (by decide) (z_X11_sign_3 x1.toInt x4.toInt x5.toInt z8.toInt N6 e0 t2 c3 hf7 hf8 hm9 c11 (xr x1) (xr x4) (xr x5) (xr z8)) dX11_sign_37 (fun H locs hT hS => ?_)
          refine lv_aload_n hx hb dX11_sign_38 rfl (lv_at hl 0 rfl) ?_
          refine lv_dup hx hb dX11_sign_39 rfl ?_
          refine gX11_36 S hK hT ha kf_X11_245 dX11_sign_40 (v := x5) rfl ?_
          refine lv_iconst (v := 1) hx hb dX11_sign_43 (by decide) ?_
          refine xi_iadd hx hb (rfl : Int32.toInt x5 = x5.toInt) ((by decide) : Int32.toInt 1 = (1 : Int)) dX11_sign_44 (fun x15 t16 => ?_)
          refine pX11_36 (kq := []) (v := x15) S hK hT hS ha kf_X11_245 (Nat.le_of_ble_eq_true rfl) dX11_sign_45 (fun _ h => by cases h) (fun H locs hT hS => ?_)
          have hT : TW E K F (tl, [0, z1, z2, z3, z4, z5, z6, z7, x15, z9, z10, z11, z12, z13, z14, z15, z16, z17, z18, z19, z20], [ar0, ar1, ar2, ar3, ar4, ar5, ar6, ar7, ar8, ar9, ar10]) [] H := hT
          refine xi_iinc (n := (-8)) (lv' := fun z9 => [(2, .int z9), (0, .ref a), (1, .int p0)]) (k := 2) hx hb (rfl : Int32.toInt x4 = x4.toInt) (by decide) dX11_sign_48 hl rfl (by decide) (fun _ => rfl) (fun x17 ls t18 hl => ?_)
          have hl : lv_has ls 3 [(2, .int x17), (0, .ref a), (1, .int p0)] := hl
          refine lv_goto (tgt := 21) hx hb dX11_sign_51 (by decide) ?_
          exact ih10 x17 x15 _ _ _ (z_X11_sign_4 x1.toInt x15.toInt x17.toInt x4.toInt x5.toInt z8.toInt N6 e0 t2 c3 hf7 hf8 hm9 c11 t16 t18 (xr x1) (xr x15) (xr x17) (xr x4) (xr x5) (xr z8)) (z_X11_sign_5 x1.toInt x15.toInt x17.toInt x4.toInt x5.toInt z8.toInt N6 e0 t2 c3 hf7 hf8 hm9 c11 t16 t18 (xr x1) (xr x15) (xr x17) (xr x4) (xr x5) (xr z8)) (z_X11_sign_6 x1.toInt x15.toInt x17.toInt x4.toInt x5.toInt z8.toInt N6 e0 t2 c3 hf7 hf8 hm9 c11 t16 t18 (xr x1) (xr x15) (xr x17) (xr x4) (xr x5) (xr z8)) hT.nil hS (lv_sub hl [1, 2, 0] rfl)
    exact L21 4294967297 24 z8 _ _ _ (z_X11_sign_7 x1.toInt z8.toInt e0 t2 c3 (xr x1) (xr z8)) (by decide) (by decide) hT.nil hS (lv_sub hl [1, 2, 0] rfl)
  · refine lv_iconst (v := (-1)) hx hb dX11_sign_16 (by decide) ?_
    exact x_ri hx hb hr hlk hQ (Nat.le_of_ble_eq_true rfl) (Nat.le_of_ble_eq_true rfl) hS dX11_sign_17 (0, z8) ⟨_, rfl, (z_X11_sign_8 x1.toInt z8.toInt e0 t2 c3 (xr x1) (xr z8))⟩ hT.nil

theorem z_X11_end_1 (a0 : Int) (a1 : Int) (a2 : Int) (h0 : 0 ≤ a2 ∧ a2 ≤ 80) (h1 : (a1 = 1 ∧ (0 : Int) ≤ a0 ∧ a0 ≤ a2) ∨ (a1 = 0 ∧ (a0 < (0 : Int) ∨ a2 < a0))) (h2 : a1 ≠ 0) (r0 : -2147483648 ≤ a0 ∧ a0 < 2147483648) (r1 : -2147483648 ≤ a1 ∧ a1 < 2147483648) (r2 : -2147483648 ≤ a2 ∧ a2 < 2147483648) : ((1 : Int) = 1 ∧ 0 ≤ a0 ∧ a0 ≤ a2 ∧ a0 = a0) ∨ ((1 : Int) = 0 ∧ (a0 < 0 ∨ a2 < a0) ∧ a0 = a2) := by first | (clear h2; omega) | omega
theorem z_X11_end_2 (a0 : Int) (a1 : Int) (a2 : Int) (h0 : 0 ≤ a2 ∧ a2 ≤ 80) (h1 : (a1 = 1 ∧ (0 : Int) ≤ a0 ∧ a0 ≤ a2) ∨ (a1 = 0 ∧ (a0 < (0 : Int) ∨ a2 < a0))) (h2 : ¬ (a1 ≠ 0)) (r0 : -2147483648 ≤ a0 ∧ a0 < 2147483648) (r1 : -2147483648 ≤ a1 ∧ a1 < 2147483648) (r2 : -2147483648 ≤ a2 ∧ a2 < 2147483648) : ((0 : Int) = 1 ∧ 0 ≤ a0 ∧ a0 ≤ a2 ∧ a2 = a0) ∨ ((0 : Int) = 0 ∧ (a0 < 0 ∨ a2 < a0) ∧ a2 = a2) := by first | (clear h2; omega) | omega
abbrev rm_X11_end : Room := { frames := 1, cells := 0, slots := 0, locals := 25 }
set_option maxHeartbeats 4000000 in
set_option maxRecDepth 100000 in
theorem c_X11_end (l : Launch) (E : XE) (K : Nat → Nat) (F : Nat → Nat → Nat) (tl z0 z1 z2 z3 z4 z5 z6 z7 z8 z9 z10 z11 z12 z13 z14 z15 z16 z17 z18 z19 z20 : Int32) (ar0 ar1 ar2 ar3 ar4 ar5 ar6 ar7 ar8 ar9 ar10 : Nat → Int32) (a : Nat) (p0 : Int32) (ha : K a = 13) (e0 : 0 ≤ z8.toInt ∧ z8.toInt ≤ 80) : Met l yX11_end (xw yX11_end cX11_end 2 (some .boolean)) rm_X11_end (va_Pc [.ref a, .int p0] (XP E K F (tl, [z0, z1, z2, z3, z4, z5, z6, z7, z8, z9, z10, z11, z12, z13, z14, z15, z16, z17, z18, z19, z20], [ar0, ar1, ar2, ar3, ar4, ar5, ar6, ar7, ar8, ar9, ar10]))) (XQ E (fun v (u : Int32 × Int32) => ∃ r : Int32, v = .int r ∧ (r = 0 ∨ r = 1) ∧ ((r.toInt = 1 ∧ 0 ≤ p0.toInt ∧ p0.toInt ≤ z8.toInt ∧ u.2.toInt = p0.toInt) ∨ (r.toInt = 0 ∧ (p0.toInt < 0 ∨ z8.toInt < p0.toInt) ∧ u.2.toInt = z8.toInt))) (fun u H => TW E K F (tl, [u.1, z1, z2, z3, z4, z5, z6, z7, u.2, z9, z10, z11, z12, z13, z14, z15, z16, z17, z18, z19, z20], [ar0, ar1, ar2, ar3, ar4, ar5, ar6, ar7, ar8, ar9, ar10]) [] H)) 0 0 (xA E) := by
  refine x_enter (by decide) (Nat.le_of_ble_eq_true rfl) ?_
  intro p e s m args below meth c Q S hr hlk hnm hQ hP ls hl
  obtain ⟨hz, hK, hT⟩ := hP
  obtain ⟨hx, hb, -, -, -⟩ := id S
  obtain ⟨H, hT, hS, hgo⟩ : ∃ H : Heap, TW E K F (tl, [z0, z1, z2, z3, z4, z5, z6, z7, z8, z9, z10, z11, z12, z13, z14, z15, z16, z17, z18, z19, z20], [ar0, ar1, ar2, ar3, ar4, ar5, ar6, ar7, ar8, ar9, ar10]) [] H ∧ va_S (xA E) s.heap H [] ∧ H = s.heap := ⟨_, hT, va_S.rf, rfl⟩
  rw [← hgo]
  have hl : lv_has ls 2 [(0, .ref a), (1, .int p0)] := hl
  refine lv_aload_n hx hb dX11_end_0 rfl (lv_at hl 0 rfl) ?_
  refine lv_iconst (v := 0) hx hb dX11_end_1 (by decide) ?_
  refine pX11_0 (kq := []) (v := 0) S hK hT hS ha kf_X11_134 (Nat.le_of_ble_eq_true rfl) dX11_end_2 (fun _ h => by cases h) (fun H locs hT hS => ?_)
  have hT : TW E K F (tl, [0, z1, z2, z3, z4, z5, z6, z7, z8, z9, z10, z11, z12, z13, z14, z15, z16, z17, z18, z19, z20], [ar0, ar1, ar2, ar3, ar4, ar5, ar6, ar7, ar8, ar9, ar10]) [] H := hT
  refine lv_iload_n hx hb dX11_end_5 rfl (lv_at hl 1 rfl) ?_
  refine lv_i2l (v := p0.toInt64) hx hb dX11_end_6 rfl ?_
  refine lv_lconst (v := (0 : Int64)) hx hb dX11_end_7 (by decide) ?_
  refine lv_aload_n hx hb dX11_end_8 rfl (lv_at hl 0 rfl) ?_
  refine gX11_36 S hK hT ha kf_X11_245 dX11_end_9 (v := z8) rfl ?_
  refine lv_i2l (v := z8.toInt64) hx hb dX11_end_12 rfl ?_
  refine x_clp (x_runS (As := [.long p0.toInt64, .long (0 : Int64), .long z8.toInt64]) (rest := []) S (c_X11_in l E K F tl 0 z1 z2 z3 z4 z5 z6 z7 z8 z9 z10 z11 z12 z13 z14 z15 z16 z17 z18 z19 z20 ar0 ar1 ar2 ar3 ar4 ar5 ar6 ar7 ar8 ar9 ar10 H p0.toInt64 (0 : Int64) z8.toInt64 p0.toInt (0 : Int) z8.toInt (xl_i2l (rfl : Int32.toInt p0 = p0.toInt)) (by decide) (xl_i2l (rfl : Int32.toInt z8 = z8.toInt))) ms_X11_in km_X11_139 rfl rfl ⟨Nat.le_of_ble_eq_true rfl, Nat.le_of_ble_eq_true rfl⟩ hK (fun _ => XPh.blind) (fun U hU hW => XPh.at hK hz hS hT hU hW) rfl hl.1 (Nat.le_of_ble_eq_true rfl) dX11_end_13 ⟨Nat.le_of_ble_eq_true rfl, Nat.le_of_ble_eq_true rfl⟩) hS ?_
  rintro _ _ locs ⟨x1, rfl, b2, t3⟩ hS
  have t3 : (x1.toInt = 1 ∧ (0 : Int) ≤ p0.toInt ∧ p0.toInt ≤ z8.toInt) ∨ (x1.toInt = 0 ∧ (p0.toInt < (0 : Int) ∨ z8.toInt < p0.toInt)) := t3
  refine xi_zne (tgt := 21) hx hb (rfl : Int32.toInt x1 = x1.toInt) dX11_end_16 (by decide) (fun c4 => ?_) (fun c4 => ?_)
  · refine lv_aload_n hx hb dX11_end_21 rfl (lv_at hl 0 rfl) ?_
    refine lv_iload_n hx hb dX11_end_22 rfl (lv_at hl 1 rfl) ?_
    refine pX11_36 (kq := []) (v := p0) S hK hT hS ha kf_X11_245 (Nat.le_of_ble_eq_true rfl) dX11_end_23 (fun _ h => by cases h) (fun H locs hT hS => ?_)
    have hT : TW E K F (tl, [0, z1, z2, z3, z4, z5, z6, z7, p0, z9, z10, z11, z12, z13, z14, z15, z16, z17, z18, z19, z20], [ar0, ar1, ar2, ar3, ar4, ar5, ar6, ar7, ar8, ar9, ar10]) [] H := hT
    refine lv_iconst (v := 1) hx hb dX11_end_26 (by decide) ?_
    exact x_rz hx hb hr (xnz (Or.inr rfl)) hlk hQ (Nat.le_of_ble_eq_true rfl) (Nat.le_of_ble_eq_true rfl) hS dX11_end_27 (0, p0) ⟨_, rfl, (Or.inr rfl), (z_X11_end_1 p0.toInt x1.toInt z8.toInt e0 t3 c4 (xr p0) (xr x1) (xr z8))⟩ hT.nil
  · refine lv_iconst (v := 0) hx hb dX11_end_19 (by decide) ?_
    exact x_rz hx hb hr (xnz (Or.inl rfl)) hlk hQ (Nat.le_of_ble_eq_true rfl) (Nat.le_of_ble_eq_true rfl) hS dX11_end_20 (0, z8) ⟨_, rfl, (Or.inl rfl), (z_X11_end_2 p0.toInt x1.toInt z8.toInt e0 t3 c4 (xr p0) (xr x1) (xr z8))⟩ hT.nil

theorem z_X11_signAt_1 (a0 : Int) (a1 : Int) (h0 : 0 ≤ a0) (h1 : 0 ≤ a1 ∧ a1 ≤ 80) (h2 : a1 ≤ a0) (r0 : -2147483648 ≤ a0 ∧ a0 < 2147483648) (r1 : -2147483648 ≤ a1 ∧ a1 < 2147483648) : (0 : Int) ≠ 0 → a0 < a1 := by omega
theorem z_X11_signAt_2 (a0 : Int) (a1 : Int) (h0 : 0 ≤ a0) (h1 : 0 ≤ a1 ∧ a1 ≤ 80) (h2 : ¬ (a1 ≤ a0)) (r0 : -2147483648 ≤ a0 ∧ a0 < 2147483648) (r1 : -2147483648 ≤ a1 ∧ a1 < 2147483648) : 0 ≤ a0 ∧ a0 < ((80 : Nat) : Int) := by omega
theorem z_X11_signAt_3 (a0 : Int) (a1 : Int) (a2 : Int) (h0 : 0 ≤ a0) (h1 : 0 ≤ a2 ∧ a2 ≤ 80) (h2 : ¬ (a2 ≤ a0)) (r0 : -2147483648 ≤ a0 ∧ a0 < 2147483648) (r1 : -2147483648 ≤ a1 ∧ a1 < 2147483648) (r2 : -2147483648 ≤ a2 ∧ a2 < 2147483648) : a1 ≠ 0 → a0 < a2 := by omega
abbrev rm_X11_signAt : Room := { frames := 0, cells := 0, slots := 0, locals := 0 }
set_option maxHeartbeats 4000000 in
set_option maxRecDepth 100000 in
theorem c_X11_signAt (l : Launch) (E : XE) (K : Nat → Nat) (F : Nat → Nat → Nat) (tl z0 z1 z2 z3 z4 z5 z6 z7 z8 z9 z10 z11 z12 z13 z14 z15 z16 z17 z18 z19 z20 : Int32) (ar0 ar1 ar2 ar3 ar4 ar5 ar6 ar7 ar8 ar9 ar10 : Nat → Int32) (h0 : Heap) (a : Nat) (p0 : Int32) (ha : K a = 13) (e0 : 0 ≤ p0.toInt) (e1 : 0 ≤ z8.toInt ∧ z8.toInt ≤ 80) : Met l yX11_signAt (xw yX11_signAt cX11_signAt 2 (some .int)) rm_X11_signAt (va_Pc [.ref a, .int p0] (XPh E K F (tl, [z0, z1, z2, z3, z4, z5, z6, z7, z8, z9, z10, z11, z12, z13, z14, z15, z16, z17, z18, z19, z20], [ar0, ar1, ar2, ar3, ar4, ar5, ar6, ar7, ar8, ar9, ar10]) h0)) (XQ E (fun v (u : Unit) => ∃ r : Int32, v = .int r ∧ (r.toInt ≠ 0 → p0.toInt < z8.toInt)) (fun _ H => H = h0)) 0 0 (xA E) := by
  refine x_enter (by decide) (Nat.le_of_ble_eq_true rfl) ?_
  intro p e s m args below meth c Q S hr hlk hnm hQ hP ls hl
  obtain ⟨⟨hz, hK, hT⟩, hh⟩ := hP
  obtain ⟨hx, hb, -, -, -⟩ := id S
  have hS : va_S (xA E) s.heap s.heap [] := va_S.rf
  have hl : lv_has ls 2 [(0, .ref a), (1, .int p0)] := hl
  refine lv_iload_n hx hb dX11_signAt_0 rfl (lv_at hl 1 rfl) ?_
  refine lv_aload_n hx hb dX11_signAt_1 rfl (lv_at hl 0 rfl) ?_
  refine gX11_36 S hK hT ha kf_X11_245 dX11_signAt_2 (v := z8) rfl ?_
  refine xi_cge (tgt := 17) hx hb (rfl : Int32.toInt p0 = p0.toInt) (rfl : Int32.toInt z8 = z8.toInt) dX11_signAt_5 (by decide) (fun c1 => ?_) (fun c1 => ?_)
  · refine lv_iconst (v := 0) hx hb dX11_signAt_17 (by decide) ?_
    exact x_ri hx hb hr hlk hQ (Nat.le_of_ble_eq_true rfl) (Nat.le_of_ble_eq_true rfl) hS dX11_signAt_18 () ⟨_, rfl, (z_X11_signAt_1 p0.toInt z8.toInt e0 e1 c1 (xr p0) (xr z8))⟩ hh
  · refine lv_aload_n hx hb dX11_signAt_8 rfl (lv_at hl 0 rfl) ?_
    refine gX11_35 S hK hT ha kf_X11_103 dX11_signAt_9 (fun hk2 => ?_)
    refine lv_iload_n hx hb dX11_signAt_12 rfl (lv_at hl 1 rfl) ?_
    refine al_2 S hK hT hk2 ar_51 (by decide) (z_X11_signAt_2 p0.toInt z8.toInt e0 e1 c1 (xr p0) (xr z8)) dX11_signAt_13 (fun x3 o4 => ?_)
    refine lv_goto (tgt := 18) hx hb dX11_signAt_14 (by decide) ?_
    exact x_ri hx hb hr hlk hQ (Nat.le_of_ble_eq_true rfl) (Nat.le_of_ble_eq_true rfl) hS dX11_signAt_18 () ⟨_, rfl, (z_X11_signAt_3 p0.toInt x3.toInt z8.toInt e0 e1 c1 (xr p0) (xr x3) (xr z8))⟩ hh

theorem z_X11_next_1 (a0 : Int) (a1 : Int) (h0 : a1 ≤ a0 ∧ a0 ≤ 80) (h1 : 0 ≤ a1 ∧ a1 ≤ 80) (r0 : -2147483648 ≤ a0 ∧ a0 < 2147483648) (r1 : -2147483648 ≤ a1 ∧ a1 < 2147483648) : ¬ (2147483648 - a0 < ((0 : Nat) : Int)) := by omega
theorem z_X11_next_2 (a0 : Int) (a1 : Int) (a2 : Nat) (h0 : 0 ≤ a1 ∧ a1 ≤ 80) (h1 : a1 ≤ a0 ∧ a0 ≤ 80) (h2 : 2147483648 - a0 < ((a2 + 1 : Nat) : Int)) (r0 : -2147483648 ≤ a0 ∧ a0 < 2147483648) (r1 : -2147483648 ≤ a1 ∧ a1 < 2147483648) : 0 ≤ a0 := by omega
theorem z_X11_next_3 (a0 : Int) (h0 : 0 ≤ a0 ∧ a0 ≤ 80) (r0 : -2147483648 ≤ a0 ∧ a0 < 2147483648) : 0 ≤ a0 ∧ a0 ≤ 80 := by omega
theorem z_X11_next_4 (a0 : Int) (a1 : Int) (a2 : Int) (a3 : Int) (a4 : Nat) (h0 : 0 ≤ a2 ∧ a2 ≤ 80) (h1 : 0 ≤ a3 ∧ a3 ≤ 80) (h2 : a3 ≤ a0 ∧ a0 ≤ 80) (h3 : 2147483648 - a0 < ((a4 + 1 : Nat) : Int)) (h4 : a1 ≠ 0 → a0 < a2) (r0 : -2147483648 ≤ a0 ∧ a0 < 2147483648) (r1 : -2147483648 ≤ a1 ∧ a1 < 2147483648) (r2 : -2147483648 ≤ a2 ∧ a2 < 2147483648) (r3 : -2147483648 ≤ a3 ∧ a3 < 2147483648) : 0 ≤ a0 := by omega
theorem z_X11_next_5 (a0 : Int) (a1 : Int) (a2 : Int) (a3 : Int) (a4 : Nat) (h0 : 0 ≤ a2 ∧ a2 ≤ 80) (h1 : 0 ≤ a3 ∧ a3 ≤ 80) (h2 : a3 ≤ a0 ∧ a0 ≤ 80) (h3 : 2147483648 - a0 < ((a4 + 1 : Nat) : Int)) (h4 : a1 ≠ 0 → a0 < a2) (r0 : -2147483648 ≤ a0 ∧ a0 < 2147483648) (r1 : -2147483648 ≤ a1 ∧ a1 < 2147483648) (r2 : -2147483648 ≤ a2 ∧ a2 < 2147483648) (r3 : -2147483648 ≤ a3 ∧ a3 < 2147483648) : 0 ≤ a2 ∧ a2 ≤ 80 := by omega
theorem z_X11_next_6 (a0 : Int) (a1 : Int) (a2 : Int) (a3 : Int) (a4 : Int) (a5 : Nat) (h0 : 0 ≤ a3 ∧ a3 ≤ 80) (h1 : 0 ≤ a4 ∧ a4 ≤ 80) (h2 : a4 ≤ a0 ∧ a0 ≤ 80) (h3 : 2147483648 - a0 < ((a5 + 1 : Nat) : Int)) (h4 : a2 ≠ 0 → a0 < a3) (h5 : a1 ≠ 0 → a0 < a3) (r0 : -2147483648 ≤ a0 ∧ a0 < 2147483648) (r1 : -2147483648 ≤ a1 ∧ a1 < 2147483648) (r2 : -2147483648 ≤ a2 ∧ a2 < 2147483648) (r3 : -2147483648 ≤ a3 ∧ a3 < 2147483648) (r4 : -2147483648 ≤ a4 ∧ a4 < 2147483648) : a4 ≤ a0 ∧ a0 ≤ 80 ∧ (a1 ≠ 0 → a0 < a3) := by omega
theorem z_X11_next_7 (a0 : Int) (a1 : Int) (a2 : Int) (a3 : Int) (a4 : Int) (a5 : Nat) (h0 : 0 ≤ a3 ∧ a3 ≤ 80) (h1 : 0 ≤ a4 ∧ a4 ≤ 80) (h2 : a4 ≤ a0 ∧ a0 ≤ 80) (h3 : 2147483648 - a0 < ((a5 + 1 : Nat) : Int)) (h4 : a2 ≠ 0 → a0 < a3) (h5 : ¬ (a2 ≠ (32 : Int))) (h6 : ¬ (a3 ≤ a0)) (h7 : a1 = a0 + (1 : Int) ∨ a0 + (1 : Int) < -2147483648 ∨ 2147483648 ≤ a0 + (1 : Int)) (r0 : -2147483648 ≤ a0 ∧ a0 < 2147483648) (r1 : -2147483648 ≤ a1 ∧ a1 < 2147483648) (r2 : -2147483648 ≤ a2 ∧ a2 < 2147483648) (r3 : -2147483648 ≤ a3 ∧ a3 < 2147483648) (r4 : -2147483648 ≤ a4 ∧ a4 < 2147483648) : a4 ≤ a1 ∧ a1 ≤ 80 := by first | (clear h4 h5; omega) | (clear h5; omega) | omega
theorem z_X11_next_8 (a0 : Int) (a1 : Int) (a2 : Int) (a3 : Int) (a4 : Int) (a5 : Nat) (h0 : 0 ≤ a3 ∧ a3 ≤ 80) (h1 : 0 ≤ a4 ∧ a4 ≤ 80) (h2 : a4 ≤ a0 ∧ a0 ≤ 80) (h3 : 2147483648 - a0 < ((a5 + 1 : Nat) : Int)) (h4 : a2 ≠ 0 → a0 < a3) (h5 : ¬ (a2 ≠ (32 : Int))) (h6 : ¬ (a3 ≤ a0)) (h7 : a1 = a0 + (1 : Int) ∨ a0 + (1 : Int) < -2147483648 ∨ 2147483648 ≤ a0 + (1 : Int)) (r0 : -2147483648 ≤ a0 ∧ a0 < 2147483648) (r1 : -2147483648 ≤ a1 ∧ a1 < 2147483648) (r2 : -2147483648 ≤ a2 ∧ a2 < 2147483648) (r3 : -2147483648 ≤ a3 ∧ a3 < 2147483648) (r4 : -2147483648 ≤ a4 ∧ a4 < 2147483648) : 2147483648 - a1 < ((a5 : Nat) : Int) := by first | (clear h4 h5; omega) | (clear h5; omega) | omega
theorem z_X11_next_9 (a0 : Int) (h0 : 0 ≤ a0 ∧ a0 ≤ 80) (r0 : -2147483648 ≤ a0 ∧ a0 < 2147483648) : a0 ≤ a0 ∧ a0 ≤ 80 := by omega
theorem z_X11_next_10 (a0 : Int) (h0 : 0 ≤ a0 ∧ a0 ≤ 80) (r0 : -2147483648 ≤ a0 ∧ a0 < 2147483648) : 2147483648 - a0 < ((4294967297 : Nat) : Int) := by omega
abbrev rm_X11_next : Room := { frames := 1, cells := 0, slots := 0, locals := 21 }
set_option maxHeartbeats 4000000 in
set_option maxRecDepth 100000 in
theorem c_X11_next (l : Launch) (E : XE) (K : Nat → Nat) (F : Nat → Nat → Nat) (tl z0 z1 z2 z3 z4 z5 z6 z7 z8 z9 z10 z11 z12 z13 z14 z15 z16 z17 z18 z19 z20 : Int32) (ar0 ar1 ar2 ar3 ar4 ar5 ar6 ar7 ar8 ar9 ar10 : Nat → Int32) (a : Nat) (ha : K a = 13) (e0 : 0 ≤ z8.toInt ∧ z8.toInt ≤ 80) (e1 : 0 ≤ z9.toInt ∧ z9.toInt ≤ 80) : Met l yX11_next (xw yX11_next cX11_next 1 (some .int)) rm_X11_next (va_Pc [.ref a] (XP E K F (tl, [z0, z1, z2, z3, z4, z5, z6, z7, z8, z9, z10, z11, z12, z13, z14, z15, z16, z17, z18, z19, z20], [ar0, ar1, ar2, ar3, ar4, ar5, ar6, ar7, ar8, ar9, ar10]))) (XQ E (fun v (u : Int32) => ∃ r : Int32, v = .int r ∧ (z9.toInt ≤ u.toInt ∧ u.toInt ≤ 80 ∧ (r.toInt ≠ 0 → u.toInt < z8.toInt))) (fun u H => TW E K F (tl, [z0, z1, z2, z3, z4, z5, z6, z7, z8, u, z10, z11, z12, z13, z14, z15, z16, z17, z18, z19, z20], [ar0, ar1, ar2, ar3, ar4, ar5, ar6, ar7, ar8, ar9, ar10]) [] H)) 0 0 (xA E) := by
  refine x_enter (by decide) (Nat.le_of_ble_eq_true rfl) ?_
  intro p e s m args below meth c Q S hr hlk hnm hQ hP ls hl
  obtain ⟨hz, hK, hT⟩ := hP
  obtain ⟨hx, hb, -, -, -⟩ := id S
  obtain ⟨H, hT, hS, hgo⟩ : ∃ H : Heap, TW E K F (tl, [z0, z1, z2, z3, z4, z5, z6, z7, z8, z9, z10, z11, z12, z13, z14, z15, z16, z17, z18, z19, z20], [ar0, ar1, ar2, ar3, ar4, ar5, ar6, ar7, ar8, ar9, ar10]) [] H ∧ va_S (xA E) s.heap H [] ∧ H = s.heap := ⟨_, hT, va_S.rf, rfl⟩
  rw [← hgo]
  have hl : lv_has ls 1 [(0, .ref a)] := hl
  have L0 : ∀ (N2 : Nat) (x1 : Int32) (H : Heap) (locs : List Loc) (ls : Array Slot), z9.toInt ≤ x1.toInt ∧ x1.toInt ≤ 80 → 2147483648 - x1.toInt < ((N2 : Nat) : Int) → TW E K F (tl, [z0, z1, z2, z3, z4, z5, z6, z7, z8, x1, z10, z11, z12, z13, z14, z15, z16, z17, z18, z19, z20], [ar0, ar1, ar2, ar3, ar4, ar5, ar6, ar7, ar8, ar9, ar10]) [] H → va_S (xA E) s.heap H locs → lv_has ls 1 [(0, .ref a)] → W p l e rm_X11_next s m args below meth c H locs 0 0 Q (F0 m 0 ls []) := by
    intro N2
    induction N2 with
    | zero =>
      intro x1 H locs ls hf3 hm4
      exact absurd hm4 (z_X11_next_1 x1.toInt z9.toInt hf3 e1 (xr x1) (xr z9))
    | succ N2 ih5 =>
      intro x1 H locs ls hf3 hm4 hT hS hl
      refine lv_aload_n hx hb dX11_next_0 rfl (lv_at hl 0 rfl) ?_
      refine lv_aload_n hx hb dX11_next_1 rfl (lv_at hl 0 rfl) ?_
      refine gX11_37 S hK hT ha kf_X11_256 dX11_next_2 (v := x1) rfl ?_
      refine x_clp (x_runV (b := a) (As := [.int x1]) (rest := []) S (c_X11_signAt l E K F tl z0 z1 z2 z3 z4 z5 z6 z7 z8 x1 z10 z11 z12 z13 z14 z15 z16 z17 z18 z19 z20 ar0 ar1 ar2 ar3 ar4 ar5 ar6 ar7 ar8 ar9 ar10 H a x1 ha (z_X11_next_2 x1.toInt z9.toInt N2 e1 hf3 hm4 (xr x1) (xr z9)) (z_X11_next_3 z8.toInt e0 (xr z8))) mv_X11_signAt km_X11_259 rfl rfl ⟨Nat.le_of_ble_eq_true rfl, Nat.le_of_ble_eq_true rfl⟩ (rc_13 hK hT ha) hK (fun _ => XPh.blind) (fun U hU hW => XPh.at hK hz hS hT hU hW) rfl hl.1 (Nat.le_of_ble_eq_true rfl) dX11_next_5 ⟨Nat.le_of_ble_eq_true rfl, Nat.le_of_ble_eq_true rfl⟩) hS ?_
      rintro _ _ locs ⟨x7, rfl, t6⟩ hS
      have t6 : x7.toInt ≠ 0 → x1.toInt < z8.toInt := t6
      refine lv_bipush (v := 32) hx hb dX11_next_8 (by decide) ?_
      have J37 : ∀ (H : Heap) (locs : List Loc) (ls : Array Slot), TW E K F (tl, [z0, z1, z2, z3, z4, z5, z6, z7, z8, x1, z10, z11, z12, z13, z14, z15, z16, z17, z18, z19, z20], [ar0, ar1, ar2, ar3, ar4, ar5, ar6, ar7, ar8, ar9, ar10]) [] H → va_S (xA E) s.heap H locs → lv_has ls 1 [(0, .ref a)] → W p l e rm_X11_next s m args below meth c H locs 0 0 Q (F0 m 37 ls []) := by
        intro H locs ls hT hS hl
        refine lv_aload_n hx hb dX11_next_37 rfl (lv_at hl 0 rfl) ?_
        refine lv_aload_n hx hb dX11_next_38 rfl (lv_at hl 0 rfl) ?_
        refine gX11_37 S hK hT ha kf_X11_256 dX11_next_39 (v := x1) rfl ?_
        refine x_clp (x_runV (b := a) (As := [.int x1]) (rest := []) S (c_X11_signAt l E K F tl z0 z1 z2 z3 z4 z5 z6 z7 z8 x1 z10 z11 z12 z13 z14 z15 z16 z17 z18 z19 z20 ar0 ar1 ar2 ar3 ar4 ar5 ar6 ar7 ar8 ar9 ar10 H a x1 ha (z_X11_next_4 x1.toInt x7.toInt z8.toInt z9.toInt N2 e0 e1 hf3 hm4 t6 (xr x1) (xr x7) (xr z8) (xr z9)) (z_X11_next_5 x1.toInt x7.toInt z8.toInt z9.toInt N2 e0 e1 hf3 hm4 t6 (xr x1) (xr x7) (xr z8) (xr z9))) mv_X11_signAt km_X11_259 rfl rfl ⟨Nat.le_of_ble_eq_true rfl, Nat.le_of_ble_eq_true rfl⟩ (rc_13 hK hT ha) hK (fun _ => XPh.blind) (fun U hU hW => XPh.at hK hz hS hT hU hW) rfl hl.1 (Nat.le_of_ble_eq_true rfl) dX11_next_42 ⟨Nat.le_of_ble_eq_true rfl, Nat.le_of_ble_eq_true rfl⟩) hS ?_
        rintro _ _ locs ⟨x10, rfl, t9⟩ hS
        have t9 : x10.toInt ≠ 0 → x1.toInt < z8.toInt := t9
        exact x_ri hx hb hr hlk hQ (Nat.le_of_ble_eq_true rfl) (Nat.le_of_ble_eq_true rfl) hS dX11_next_45 (x1) ⟨_, rfl, (z_X11_next_6 x1.toInt x10.toInt x7.toInt z8.toInt z9.toInt N2 e0 e1 hf3 hm4 t6 t9 (xr x1) (xr x10) (xr x7) (xr z8) (xr z9))⟩ hT.nil
      refine xi_cne (tgt := 37) hx hb (rfl : Int32.toInt x7 = x7.toInt) ((by decide) : Int32.toInt 32 = (32 : Int)) dX11_next_10 (by decide) (fun c12 => ?_) (fun c12 => ?_)
      · exact J37 _ _ _ hT.nil hS (lv_sub hl [0] rfl)
      · refine lv_aload_n hx hb dX11_next_13 rfl (lv_at hl 0 rfl) ?_
        refine gX11_37 S hK hT ha kf_X11_256 dX11_next_14 (v := x1) rfl ?_
        refine lv_aload_n hx hb dX11_next_17 rfl (lv_at hl 0 rfl) ?_
        refine gX11_36 S hK hT ha kf_X11_245 dX11_next_18 (v := z8) rfl ?_
        refine xi_cge (tgt := 37) hx hb (rfl : Int32.toInt x1 = x1.toInt) (rfl : Int32.toInt z8 = z8.toInt) dX11_next_21 (by decide) (fun c13 => ?_) (fun c13 => ?_)
        · exact J37 _ _ _ hT.nil hS (lv_sub hl [0] rfl)
        · refine lv_aload_n hx hb dX11_next_24 rfl (lv_at hl 0 rfl) ?_
          refine lv_dup hx hb dX11_next_25 rfl ?_
          refine gX11_37 S hK hT ha kf_X11_256 dX11_next_26 (v := x1) rfl ?_
          refine lv_iconst (v := 1) hx hb dX11_next_29 (by decide) ?_
          refine xi_iadd hx hb (rfl : Int32.toInt x1 = x1.toInt) ((by decide) : Int32.toInt 1 = (1 : Int)) dX11_next_30 (fun x14 t15 => ?_)
          refine pX11_37 (kq := []) (v := x14) S hK hT hS ha kf_X11_256 (Nat.le_of_ble_eq_true rfl) dX11_next_31 (fun _ h => by cases h) (fun H locs hT hS => ?_)
          have hT : TW E K F (tl, [z0, z1, z2, z3, z4, z5, z6, z7, z8, x14, z10, z11, z12, z13, z14, z15, z16, z17, z18, z19, z20], [ar0, ar1, ar2, ar3, ar4, ar5, ar6, ar7, ar8, ar9, ar10]) [] H := hT
          refine lv_goto (tgt := 0) hx hb dX11_next_34 (by decide) ?_
          exact ih5 x14 _ _ _ (z_X11_next_7 x1.toInt x14.toInt x7.toInt z8.toInt z9.toInt N2 e0 e1 hf3 hm4 t6 c12 c13 t15 (xr x1) (xr x14) (xr x7) (xr z8) (xr z9)) (z_X11_next_8 x1.toInt x14.toInt x7.toInt z8.toInt z9.toInt N2 e0 e1 hf3 hm4 t6 c12 c13 t15 (xr x1) (xr x14) (xr x7) (xr z8) (xr z9)) hT.nil hS (lv_sub hl [0] rfl)
  exact L0 4294967297 z9 _ _ _ (z_X11_next_9 z9.toInt e1 (xr z9)) (z_X11_next_10 z9.toInt e1 (xr z9)) hT.nil hS (lv_sub hl [0] rfl)

abbrev rm_X11_wrong : Room := { frames := 0, cells := 0, slots := 0, locals := 0 }
set_option maxHeartbeats 4000000 in
set_option maxRecDepth 100000 in
theorem c_X11_wrong (l : Launch) (E : XE) (K : Nat → Nat) (F : Nat → Nat → Nat) (tl z0 z1 z2 z3 z4 z5 z6 z7 z8 z9 z10 z11 z12 z13 z14 z15 z16 z17 z18 z19 z20 : Int32) (ar0 ar1 ar2 ar3 ar4 ar5 ar6 ar7 ar8 ar9 ar10 : Nat → Int32) (a : Nat) (p0 : Int32) (ha : K a = 13) : Met l yX11_wrong (xw yX11_wrong cX11_wrong 2 none) rm_X11_wrong (va_Pc [.ref a, .int p0] (XP E K F (tl, [z0, z1, z2, z3, z4, z5, z6, z7, z8, z9, z10, z11, z12, z13, z14, z15, z16, z17, z18, z19, z20], [ar0, ar1, ar2, ar3, ar4, ar5, ar6, ar7, ar8, ar9, ar10]))) (XQv E (fun (u : Int32 × Int32) => (u.2.toInt = 0)) (fun u H => TW E K F (tl, [z0, z1, z2, z3, z4, z5, z6, z7, z8, z9, u.1, u.2, z12, z13, z14, z15, z16, z17, z18, z19, z20], [ar0, ar1, ar2, ar3, ar4, ar5, ar6, ar7, ar8, ar9, ar10]) [] H)) 0 0 (xA E) := by
  refine x_enter (by decide) (Nat.le_of_ble_eq_true rfl) ?_
  intro p e s m args below meth c Q S hr hlk hnm hQ hP ls hl
  obtain ⟨hz, hK, hT⟩ := hP
  obtain ⟨hx, hb, -, -, -⟩ := id S
  obtain ⟨H, hT, hS, hgo⟩ : ∃ H : Heap, TW E K F (tl, [z0, z1, z2, z3, z4, z5, z6, z7, z8, z9, z10, z11, z12, z13, z14, z15, z16, z17, z18, z19, z20], [ar0, ar1, ar2, ar3, ar4, ar5, ar6, ar7, ar8, ar9, ar10]) [] H ∧ va_S (xA E) s.heap H [] ∧ H = s.heap := ⟨_, hT, va_S.rf, rfl⟩
  rw [← hgo]
  have hl : lv_has ls 2 [(0, .ref a), (1, .int p0)] := hl
  refine lv_aload_n hx hb dX11_wrong_0 rfl (lv_at hl 0 rfl) ?_
  refine lv_aload_n hx hb dX11_wrong_1 rfl (lv_at hl 0 rfl) ?_
  refine gX11_39 S hK hT ha kf_X11_262 dX11_wrong_2 (v := z11) rfl ?_
  have J16 : ∀ (x1 : Int32) (H : Heap) (locs : List Loc) (ls : Array Slot), TW E K F (tl, [z0, z1, z2, z3, z4, z5, z6, z7, z8, z9, z10, z11, z12, z13, z14, z15, z16, z17, z18, z19, z20], [ar0, ar1, ar2, ar3, ar4, ar5, ar6, ar7, ar8, ar9, ar10]) [] H → va_S (xA E) s.heap H locs → lv_has ls 2 [(0, .ref a)] → W p l e rm_X11_wrong s m args below meth c H locs 0 0 Q (F0 m 16 ls [.int x1, .ref a]) := by
    intro x1 H locs ls hT hS hl
    refine pX11_38 (kq := []) (v := x1) S hK hT hS ha kf_X11_265 (Nat.le_of_ble_eq_true rfl) dX11_wrong_16 (fun _ h => by cases h) (fun H locs hT hS => ?_)
    have hT : TW E K F (tl, [z0, z1, z2, z3, z4, z5, z6, z7, z8, z9, x1, z11, z12, z13, z14, z15, z16, z17, z18, z19, z20], [ar0, ar1, ar2, ar3, ar4, ar5, ar6, ar7, ar8, ar9, ar10]) [] H := hT
    refine lv_aload_n hx hb dX11_wrong_19 rfl (lv_at hl 0 rfl) ?_
    refine lv_iconst (v := 0) hx hb dX11_wrong_20 (by decide) ?_
    refine pX11_39 (kq := []) (v := 0) S hK hT hS ha kf_X11_262 (Or.inl rfl) (Nat.le_of_ble_eq_true rfl) dX11_wrong_21 (fun _ h => by cases h) (fun H locs hT hS => ?_)
    have hT : TW E K F (tl, [z0, z1, z2, z3, z4, z5, z6, z7, z8, z9, x1, 0, z12, z13, z14, z15, z16, z17, z18, z19, z20], [ar0, ar1, ar2, ar3, ar4, ar5, ar6, ar7, ar8, ar9, ar10]) [] H := hT
    exact x_rv hx hb hr hlk hQ (Nat.le_of_ble_eq_true rfl) (Nat.le_of_ble_eq_true rfl) hS dX11_wrong_24 (x1, 0) (show (0 : Int) = 0 by decide) hT.nil
  refine xi_zeq (tgt := 12) hx hb (rfl : Int32.toInt z11 = z11.toInt) dX11_wrong_5 (by decide) (fun c2 => ?_) (fun c2 => ?_)
  · refine lv_aload_n hx hb dX11_wrong_12 rfl (lv_at hl 0 rfl) ?_
    refine gX11_38 S hK hT ha kf_X11_265 dX11_wrong_13 (v := z10) rfl ?_
    exact J16 z10 _ _ _ hT.nil hS (lv_sub hl [0] rfl)
  · refine lv_iload_n hx hb dX11_wrong_8 rfl (lv_at hl 1 rfl) ?_
    refine lv_goto (tgt := 16) hx hb dX11_wrong_9 (by decide) ?_
    exact J16 p0 _ _ _ hT.nil hS (lv_sub hl [0] rfl)

theorem z_X11_isWord_1 (a0 : Int) (h0 : 0 ≤ a0 ∧ a0 ≤ 80) (r0 : -2147483648 ≤ a0 ∧ a0 < 2147483648) : 0 ≤ a0 ∧ a0 ≤ 80 := by omega
theorem z_X11_isWord_2 (a0 : Int) (h0 : 0 ≤ a0 ∧ a0 ≤ 80) (r0 : -2147483648 ≤ a0 ∧ a0 < 2147483648) : 0 ≤ a0 ∧ a0 ≤ 80 := by omega
theorem z_X11_isWord_3 (a0 : Int) (h0 : 0 ≤ a0 ∧ a0 ≤ 80) (r0 : -2147483648 ≤ a0 ∧ a0 < 2147483648) : ¬ (2147483648 - a0 < ((0 : Nat) : Int)) := by omega
theorem z_X11_isWord_4 (a0 : Int) (a1 : Nat) (h0 : 0 ≤ a0 ∧ a0 ≤ 80) (h1 : 2147483648 - a0 < ((a1 + 1 : Nat) : Int)) (r0 : -2147483648 ≤ a0 ∧ a0 < 2147483648) : 0 ≤ a0 := by omega
theorem z_X11_isWord_5 (a0 : Int) (a1 : Int) (a2 : Int) (a3 : Int) (h0 : 0 ≤ a2 ∧ a2 ≤ 80) (h1 : 0 ≤ a3 ∧ a3 ≤ 80) (h2 : a3 ≤ a0) (h3 : a0 ≤ 80) (h4 : a1 ≠ 0 → a0 < a2) (r0 : -2147483648 ≤ a0 ∧ a0 < 2147483648) (r1 : -2147483648 ≤ a1 ∧ a1 < 2147483648) (r2 : -2147483648 ≤ a2 ∧ a2 < 2147483648) (r3 : -2147483648 ≤ a3 ∧ a3 < 2147483648) : 0 ≤ a2 ∧ a2 ≤ 80 := by omega
theorem z_X11_isWord_6 (a0 : Int) (h0 : (0 : Int) ≤ a0) (r0 : -2147483648 ≤ a0 ∧ a0 < 2147483648) : ¬ (2147483648 - a0 < ((0 : Nat) : Int)) := by omega
theorem z_X11_isWord_7 (a0 : Int) (a1 : Int) (a2 : Int) (a3 : Int) (a4 : Int) (a5 : Int) (a6 : Int) (a7 : Nat) (h0 : 0 ≤ a5 ∧ a5 ≤ 80) (h1 : 0 ≤ a6 ∧ a6 ≤ 80) (h2 : a6 ≤ a0) (h3 : a0 ≤ 80) (h4 : a3 ≠ 0 → a0 < a5) (h5 : 0 ≤ a4 ∧ a4 ≤ 80) (h6 : 2147483648 - a4 < ((a7 + 1 : Nat) : Int)) (h7 : a1 ≠ 0 → a4 < a5) (h8 : (a2 = 1 ∧ 97 ≤ a1 ∧ a1 ≤ 122) ∨ (a2 = 0 ∧ (a1 < 97 ∨ 122 < a1))) (h9 : a2 = 0 ∨ a2 = 1) (h10 : a2 = 0) (r0 : -2147483648 ≤ a0 ∧ a0 < 2147483648) (r1 : -2147483648 ≤ a1 ∧ a1 < 2147483648) (r2 : -2147483648 ≤ a2 ∧ a2 < 2147483648) (r3 : -2147483648 ≤ a3 ∧ a3 < 2147483648) (r4 : -2147483648 ≤ a4 ∧ a4 < 2147483648) (r5 : -2147483648 ≤ a5 ∧ a5 < 2147483648) (r6 : -2147483648 ≤ a6 ∧ a6 < 2147483648) : 0 ≤ a0 ∧ a0 ≤ 80 := by first | (clear h7 h8 h9; omega) | (clear h8 h9; omega) | (clear h9; omega) | omega
theorem z_X11_isWord_8 (a0 : Int) (h0 : a0 = 0 ∨ a0 = 1) (h1 : a0 = 0 ∨ a0 = 1) (h2 : a0 = 0) (r0 : -2147483648 ≤ a0 ∧ a0 < 2147483648) : a0 = 0 ∨ a0 = 1 := by omega
theorem z_X11_isWord_9 (a0 : Int) (h0 : a0 = 0 ∨ a0 = 1) (h1 : a0 = 0 ∨ a0 = 1) (h2 : a0 = 0) (r0 : -2147483648 ≤ a0 ∧ a0 < 2147483648) : a0 = 0 ∨ a0 = 1 := by omega
theorem z_X11_isWord_10 (a0 : Int) (a1 : Int) (a2 : Int) (a3 : Int) (a4 : Int) (a5 : Int) (a6 : Int) (a7 : Nat) (h0 : 0 ≤ a5 ∧ a5 ≤ 80) (h1 : 0 ≤ a6 ∧ a6 ≤ 80) (h2 : a6 ≤ a0) (h3 : a0 ≤ 80) (h4 : a3 ≠ 0 → a0 < a5) (h5 : 0 ≤ a4 ∧ a4 ≤ 80) (h6 : 2147483648 - a4 < ((a7 + 1 : Nat) : Int)) (h7 : a1 ≠ 0 → a4 < a5) (h8 : (a2 = 1 ∧ 97 ≤ a1 ∧ a1 ≤ 122) ∨ (a2 = 0 ∧ (a1 < 97 ∨ 122 < a1))) (h9 : a2 = 0 ∨ a2 = 1) (h10 : a2 = 0) (r0 : -2147483648 ≤ a0 ∧ a0 < 2147483648) (r1 : -2147483648 ≤ a1 ∧ a1 < 2147483648) (r2 : -2147483648 ≤ a2 ∧ a2 < 2147483648) (r3 : -2147483648 ≤ a3 ∧ a3 < 2147483648) (r4 : -2147483648 ≤ a4 ∧ a4 < 2147483648) (r5 : -2147483648 ≤ a5 ∧ a5 < 2147483648) (r6 : -2147483648 ≤ a6 ∧ a6 < 2147483648) : 0 ≤ a4 ∧ a4 ≤ 80 := by first | (clear h4 h8 h9; omega) | (clear h9; omega) | omega
theorem z_X11_isWord_11 (a0 : Int) (h0 : a0 = 0 ∨ a0 = 1) (h1 : a0 = 0 ∨ a0 = 1) (h2 : ¬ (a0 = 0)) (r0 : -2147483648 ≤ a0 ∧ a0 < 2147483648) : a0 = 0 ∨ a0 = 1 := by omega
theorem z_X11_isWord_12 (a0 : Int) (h0 : a0 = 0 ∨ a0 = 1) (h1 : a0 = 0 ∨ a0 = 1) (h2 : ¬ (a0 = 0)) (r0 : -2147483648 ≤ a0 ∧ a0 < 2147483648) : a0 = 0 ∨ a0 = 1 := by omega
theorem z_X11_isWord_13 (a0 : Int) (h0 : a0 = 0 ∨ a0 = 1) (h1 : a0 = 0) (r0 : -2147483648 ≤ a0 ∧ a0 < 2147483648) : a0 = 0 ∨ a0 = 1 := by omega
theorem z_X11_isWord_14 (a0 : Int) (h0 : a0 = 0 ∨ a0 = 1) (h1 : ¬ (a0 = 0)) (r0 : -2147483648 ≤ a0 ∧ a0 < 2147483648) : a0 = 0 ∨ a0 = 1 := by omega
theorem z_X11_isWord_15 (a0 : Int) (a1 : Int) (a2 : Int) (a3 : Int) (a4 : Int) (a5 : Int) (a6 : Int) (a7 : Int) (a8 : Int) (a9 : Int) (a10 : Nat) (a11 : Nat) (a12 : Nat) (h0 : 0 ≤ a8 ∧ a8 ≤ 80) (h1 : 0 ≤ a9 ∧ a9 ≤ 80) (h2 : 3 ≤ ((a12 : Nat) : Int) ∧ ((a12 : Nat) : Int) ≤ 7) (h3 : a9 ≤ a0) (h4 : a0 ≤ 80) (h5 : a5 ≠ 0 → a0 < a8) (h6 : 0 ≤ a7 ∧ a7 ≤ 80) (h7 : 2147483648 - a7 < ((a11 + 1 : Nat) : Int)) (h8 : a1 ≠ 0 → a7 < a8) (h9 : (a2 = 1 ∧ 97 ≤ a1 ∧ a1 ≤ 122) ∨ (a2 = 0 ∧ (a1 < 97 ∨ 122 < a1))) (h10 : a2 = 0 ∨ a2 = 1) (h11 : a2 = 0) (h12 : (0 : Int) ≤ a3) (h13 : 2147483648 - a3 < ((a10 + 1 : Nat) : Int)) (h14 : a4 = ((a12 : Nat) : Int)) (h15 : ¬ (a4 ≤ a3)) (h16 : a6 = a0 + a3 ∨ a0 + a3 < -2147483648 ∨ 2147483648 ≤ a0 + a3) (r0 : -2147483648 ≤ a0 ∧ a0 < 2147483648) (r1 : -2147483648 ≤ a1 ∧ a1 < 2147483648) (r2 : -2147483648 ≤ a2 ∧ a2 < 2147483648) (r3 : -2147483648 ≤ a3 ∧ a3 < 2147483648) (r4 : -2147483648 ≤ a4 ∧ a4 < 2147483648) (r5 : -2147483648 ≤ a5 ∧ a5 < 2147483648) (r6 : -2147483648 ≤ a6 ∧ a6 < 2147483648) (r7 : -2147483648 ≤ a7 ∧ a7 < 2147483648) (r8 : -2147483648 ≤ a8 ∧ a8 < 2147483648) (r9 : -2147483648 ≤ a9 ∧ a9 < 2147483648) : 0 ≤ a6 := by first | (clear h5 h8 h9 h10; omega) | (clear h8 h9 h10; omega) | (clear h9 h10; omega) | (clear h10; omega) | omega
theorem z_X11_isWord_16 (a0 : Int) (a1 : Int) (a2 : Int) (a3 : Int) (a4 : Int) (a5 : Int) (a6 : Int) (a7 : Int) (a8 : Int) (a9 : Int) (a10 : Nat) (a11 : Nat) (a12 : Nat) (h0 : 0 ≤ a8 ∧ a8 ≤ 80) (h1 : 0 ≤ a9 ∧ a9 ≤ 80) (h2 : 3 ≤ ((a12 : Nat) : Int) ∧ ((a12 : Nat) : Int) ≤ 7) (h3 : a9 ≤ a0) (h4 : a0 ≤ 80) (h5 : a5 ≠ 0 → a0 < a8) (h6 : 0 ≤ a7 ∧ a7 ≤ 80) (h7 : 2147483648 - a7 < ((a11 + 1 : Nat) : Int)) (h8 : a1 ≠ 0 → a7 < a8) (h9 : (a2 = 1 ∧ 97 ≤ a1 ∧ a1 ≤ 122) ∨ (a2 = 0 ∧ (a1 < 97 ∨ 122 < a1))) (h10 : a2 = 0 ∨ a2 = 1) (h11 : a2 = 0) (h12 : (0 : Int) ≤ a3) (h13 : 2147483648 - a3 < ((a10 + 1 : Nat) : Int)) (h14 : a4 = ((a12 : Nat) : Int)) (h15 : ¬ (a4 ≤ a3)) (h16 : a6 = a0 + a3 ∨ a0 + a3 < -2147483648 ∨ 2147483648 ≤ a0 + a3) (r0 : -2147483648 ≤ a0 ∧ a0 < 2147483648) (r1 : -2147483648 ≤ a1 ∧ a1 < 2147483648) (r2 : -2147483648 ≤ a2 ∧ a2 < 2147483648) (r3 : -2147483648 ≤ a3 ∧ a3 < 2147483648) (r4 : -2147483648 ≤ a4 ∧ a4 < 2147483648) (r5 : -2147483648 ≤ a5 ∧ a5 < 2147483648) (r6 : -2147483648 ≤ a6 ∧ a6 < 2147483648) (r7 : -2147483648 ≤ a7 ∧ a7 < 2147483648) (r8 : -2147483648 ≤ a8 ∧ a8 < 2147483648) (r9 : -2147483648 ≤ a9 ∧ a9 < 2147483648) : 0 ≤ a8 ∧ a8 ≤ 80 := by first | (clear h9 h10 h16; omega) | (clear h10; omega) | omega
theorem z_X11_isWord_17 (a0 : Int) (a1 : Int) (a2 : Int) (a3 : Int) (a4 : Int) (a5 : Int) (a6 : Int) (a7 : Int) (a8 : Int) (a9 : Int) (a10 : Int) (a11 : Nat) (a12 : Nat) (a13 : Nat) (h0 : 0 ≤ a9 ∧ a9 ≤ 80) (h1 : 0 ≤ a10 ∧ a10 ≤ 80) (h2 : 3 ≤ ((a13 : Nat) : Int) ∧ ((a13 : Nat) : Int) ≤ 7) (h3 : a10 ≤ a0) (h4 : a0 ≤ 80) (h5 : a5 ≠ 0 → a0 < a9) (h6 : 0 ≤ a8 ∧ a8 ≤ 80) (h7 : 2147483648 - a8 < ((a12 + 1 : Nat) : Int)) (h8 : a1 ≠ 0 → a8 < a9) (h9 : (a2 = 1 ∧ 97 ≤ a1 ∧ a1 ≤ 122) ∨ (a2 = 0 ∧ (a1 < 97 ∨ 122 < a1))) (h10 : a2 = 0 ∨ a2 = 1) (h11 : a2 = 0) (h12 : (0 : Int) ≤ a3) (h13 : 2147483648 - a3 < ((a11 + 1 : Nat) : Int)) (h14 : a4 = ((a13 : Nat) : Int)) (h15 : ¬ (a4 ≤ a3)) (h16 : a6 = a0 + a3 ∨ a0 + a3 < -2147483648 ∨ 2147483648 ≤ a0 + a3) (h17 : a7 ≠ 0 → a6 < a9) (r0 : -2147483648 ≤ a0 ∧ a0 < 2147483648) (r1 : -2147483648 ≤ a1 ∧ a1 < 2147483648) (r2 : -2147483648 ≤ a2 ∧ a2 < 2147483648) (r3 : -2147483648 ≤ a3 ∧ a3 < 2147483648) (r4 : -2147483648 ≤ a4 ∧ a4 < 2147483648) (r5 : -2147483648 ≤ a5 ∧ a5 < 2147483648) (r6 : -2147483648 ≤ a6 ∧ a6 < 2147483648) (r7 : -2147483648 ≤ a7 ∧ a7 < 2147483648) (r8 : -2147483648 ≤ a8 ∧ a8 < 2147483648) (r9 : -2147483648 ≤ a9 ∧ a9 < 2147483648) (r10 : -2147483648 ≤ a10 ∧ a10 < 2147483648) : 0 ≤ a3 ∧ a3 < ((a13 : Nat) : Int) := by first | (clear h5 h8 h9 h10 h17; omega) | (clear h8 h9 h10; omega) | (clear h9 h10; omega) | (clear h10; omega) | omega
theorem z_X11_isWord_18 (a0 : Int) (h0 : a0 = 0 ∨ a0 = 1) (r0 : -2147483648 ≤ a0 ∧ a0 < 2147483648) : a0 = 0 ∨ a0 = 1 := by omega
theorem z_X11_isWord_19 (a0 : Int) (a1 : Int) (a2 : Int) (a3 : Int) (a4 : Int) (a5 : Int) (a6 : Int) (a7 : Int) (a8 : Int) (a9 : Int) (a10 : Int) (a11 : Int) (a12 : Nat) (a13 : Nat) (a14 : Nat) (h0 : 0 ≤ a10 ∧ a10 ≤ 80) (h1 : 0 ≤ a11 ∧ a11 ≤ 80) (h2 : 3 ≤ ((a14 : Nat) : Int) ∧ ((a14 : Nat) : Int) ≤ 7) (h3 : a11 ≤ a0) (h4 : a0 ≤ 80) (h5 : a5 ≠ 0 → a0 < a10) (h6 : 0 ≤ a9 ∧ a9 ≤ 80) (h7 : 2147483648 - a9 < ((a13 + 1 : Nat) : Int)) (h8 : a1 ≠ 0 → a9 < a10) (h9 : (a2 = 1 ∧ 97 ≤ a1 ∧ a1 ≤ 122) ∨ (a2 = 0 ∧ (a1 < 97 ∨ 122 < a1))) (h10 : a2 = 0 ∨ a2 = 1) (h11 : a2 = 0) (h12 : (0 : Int) ≤ a3) (h13 : 2147483648 - a3 < ((a12 + 1 : Nat) : Int)) (h14 : a4 = ((a14 : Nat) : Int)) (h15 : ¬ (a4 ≤ a3)) (h16 : a6 = a0 + a3 ∨ a0 + a3 < -2147483648 ∨ 2147483648 ≤ a0 + a3) (h17 : a7 ≠ 0 → a6 < a10) (h18 : a8 = a3 + 1 ∨ a3 + 1 < -2147483648 ∨ 2147483648 ≤ a3 + 1) (r0 : -2147483648 ≤ a0 ∧ a0 < 2147483648) (r1 : -2147483648 ≤ a1 ∧ a1 < 2147483648) (r2 : -2147483648 ≤ a2 ∧ a2 < 2147483648) (r3 : -2147483648 ≤ a3 ∧ a3 < 2147483648) (r4 : -2147483648 ≤ a4 ∧ a4 < 2147483648) (r5 : -2147483648 ≤ a5 ∧ a5 < 2147483648) (r6 : -2147483648 ≤ a6 ∧ a6 < 2147483648) (r7 : -2147483648 ≤ a7 ∧ a7 < 2147483648) (r8 : -2147483648 ≤ a8 ∧ a8 < 2147483648) (r9 : -2147483648 ≤ a9 ∧ a9 < 2147483648) (r10 : -2147483648 ≤ a10 ∧ a10 < 2147483648) (r11 : -2147483648 ≤ a11 ∧ a11 < 2147483648) : (0 : Int) ≤ a8 := by first | (clear h5 h8 h9 h10 h16 h17; omega) | (clear h5 h8 h9 h10 h17; omega) | (clear h8 h9 h10; omega) | (clear h9 h10; omega) | omega
theorem z_X11_isWord_20 (a0 : Int) (a1 : Int) (a2 : Int) (a3 : Int) (a4 : Int) (a5 : Int) (a6 : Int) (a7 : Int) (a8 : Int) (a9 : Int) (a10 : Int) (a11 : Int) (a12 : Nat) (a13 : Nat) (a14 : Nat) (h0 : 0 ≤ a10 ∧ a10 ≤ 80) (h1 : 0 ≤ a11 ∧ a11 ≤ 80) (h2 : 3 ≤ ((a14 : Nat) : Int) ∧ ((a14 : Nat) : Int) ≤ 7) (h3 : a11 ≤ a0) (h4 : a0 ≤ 80) (h5 : a5 ≠ 0 → a0 < a10) (h6 : 0 ≤ a9 ∧ a9 ≤ 80) (h7 : 2147483648 - a9 < ((a13 + 1 : Nat) : Int)) (h8 : a1 ≠ 0 → a9 < a10) (h9 : (a2 = 1 ∧ 97 ≤ a1 ∧ a1 ≤ 122) ∨ (a2 = 0 ∧ (a1 < 97 ∨ 122 < a1))) (h10 : a2 = 0 ∨ a2 = 1) (h11 : a2 = 0) (h12 : (0 : Int) ≤ a3) (h13 : 2147483648 - a3 < ((a12 + 1 : Nat) : Int)) (h14 : a4 = ((a14 : Nat) : Int)) (h15 : ¬ (a4 ≤ a3)) (h16 : a6 = a0 + a3 ∨ a0 + a3 < -2147483648 ∨ 2147483648 ≤ a0 + a3) (h17 : a7 ≠ 0 → a6 < a10) (h18 : a8 = a3 + 1 ∨ a3 + 1 < -2147483648 ∨ 2147483648 ≤ a3 + 1) (r0 : -2147483648 ≤ a0 ∧ a0 < 2147483648) (r1 : -2147483648 ≤ a1 ∧ a1 < 2147483648) (r2 : -2147483648 ≤ a2 ∧ a2 < 2147483648) (r3 : -2147483648 ≤ a3 ∧ a3 < 2147483648) (r4 : -2147483648 ≤ a4 ∧ a4 < 2147483648) (r5 : -2147483648 ≤ a5 ∧ a5 < 2147483648) (r6 : -2147483648 ≤ a6 ∧ a6 < 2147483648) (r7 : -2147483648 ≤ a7 ∧ a7 < 2147483648) (r8 : -2147483648 ≤ a8 ∧ a8 < 2147483648) (r9 : -2147483648 ≤ a9 ∧ a9 < 2147483648) (r10 : -2147483648 ≤ a10 ∧ a10 < 2147483648) (r11 : -2147483648 ≤ a11 ∧ a11 < 2147483648) : 2147483648 - a8 < ((a12 : Nat) : Int) := by first | (clear h5 h8 h9 h10 h16 h17; omega) | (clear h5 h8 h9 h10 h17; omega) | (clear h8 h9 h10; omega) | (clear h9 h10; omega) | omega
theorem z_X11_isWord_21 (a0 : Int) (h0 : a0 = 0 ∨ a0 = 1) (r0 : -2147483648 ≤ a0 ∧ a0 < 2147483648) : a0 = 0 ∨ a0 = 1 := by omega
theorem z_X11_isWord_22 (a0 : Int) (a1 : Int) (a2 : Int) (a3 : Int) (a4 : Int) (a5 : Int) (a6 : Int) (a7 : Int) (a8 : Nat) (h0 : 0 ≤ a6 ∧ a6 ≤ 80) (h1 : 0 ≤ a7 ∧ a7 ≤ 80) (h2 : a7 ≤ a0) (h3 : a0 ≤ 80) (h4 : a3 ≠ 0 → a0 < a6) (h5 : 0 ≤ a5 ∧ a5 ≤ 80) (h6 : 2147483648 - a5 < ((a8 + 1 : Nat) : Int)) (h7 : a1 ≠ 0 → a5 < a6) (h8 : (a2 = 1 ∧ 97 ≤ a1 ∧ a1 ≤ 122) ∨ (a2 = 0 ∧ (a1 < 97 ∨ 122 < a1))) (h9 : a2 = 0 ∨ a2 = 1) (h10 : ¬ (a2 = 0)) (h11 : a4 = a5 + 1 ∨ a5 + 1 < -2147483648 ∨ 2147483648 ≤ a5 + 1) (r0 : -2147483648 ≤ a0 ∧ a0 < 2147483648) (r1 : -2147483648 ≤ a1 ∧ a1 < 2147483648) (r2 : -2147483648 ≤ a2 ∧ a2 < 2147483648) (r3 : -2147483648 ≤ a3 ∧ a3 < 2147483648) (r4 : -2147483648 ≤ a4 ∧ a4 < 2147483648) (r5 : -2147483648 ≤ a5 ∧ a5 < 2147483648) (r6 : -2147483648 ≤ a6 ∧ a6 < 2147483648) (r7 : -2147483648 ≤ a7 ∧ a7 < 2147483648) : 0 ≤ a4 ∧ a4 ≤ 80 := by first | (clear h4 h7 h8 h9 h10; omega) | (clear h4 h8 h9 h10; omega) | (clear h9 h10; omega) | omega
theorem z_X11_isWord_23 (a0 : Int) (a1 : Int) (a2 : Int) (a3 : Int) (a4 : Int) (a5 : Int) (a6 : Int) (a7 : Int) (a8 : Nat) (h0 : 0 ≤ a6 ∧ a6 ≤ 80) (h1 : 0 ≤ a7 ∧ a7 ≤ 80) (h2 : a7 ≤ a0) (h3 : a0 ≤ 80) (h4 : a3 ≠ 0 → a0 < a6) (h5 : 0 ≤ a5 ∧ a5 ≤ 80) (h6 : 2147483648 - a5 < ((a8 + 1 : Nat) : Int)) (h7 : a1 ≠ 0 → a5 < a6) (h8 : (a2 = 1 ∧ 97 ≤ a1 ∧ a1 ≤ 122) ∨ (a2 = 0 ∧ (a1 < 97 ∨ 122 < a1))) (h9 : a2 = 0 ∨ a2 = 1) (h10 : ¬ (a2 = 0)) (h11 : a4 = a5 + 1 ∨ a5 + 1 < -2147483648 ∨ 2147483648 ≤ a5 + 1) (r0 : -2147483648 ≤ a0 ∧ a0 < 2147483648) (r1 : -2147483648 ≤ a1 ∧ a1 < 2147483648) (r2 : -2147483648 ≤ a2 ∧ a2 < 2147483648) (r3 : -2147483648 ≤ a3 ∧ a3 < 2147483648) (r4 : -2147483648 ≤ a4 ∧ a4 < 2147483648) (r5 : -2147483648 ≤ a5 ∧ a5 < 2147483648) (r6 : -2147483648 ≤ a6 ∧ a6 < 2147483648) (r7 : -2147483648 ≤ a7 ∧ a7 < 2147483648) : 2147483648 - a4 < ((a8 : Nat) : Int) := by first | (clear h4 h7 h8 h9 h10; omega) | (clear h4 h8 h9 h10; omega) | (clear h9 h10; omega) | omega
theorem z_X11_isWord_24 (a0 : Int) (a1 : Int) (a2 : Int) (a3 : Int) (h0 : 0 ≤ a2 ∧ a2 ≤ 80) (h1 : 0 ≤ a3 ∧ a3 ≤ 80) (h2 : a3 ≤ a0) (h3 : a0 ≤ 80) (h4 : a1 ≠ 0 → a0 < a2) (r0 : -2147483648 ≤ a0 ∧ a0 < 2147483648) (r1 : -2147483648 ≤ a1 ∧ a1 < 2147483648) (r2 : -2147483648 ≤ a2 ∧ a2 < 2147483648) (r3 : -2147483648 ≤ a3 ∧ a3 < 2147483648) : 0 ≤ a0 ∧ a0 ≤ 80 := by omega
theorem z_X11_isWord_25 (a0 : Int) (a1 : Int) (a2 : Int) (a3 : Int) (h0 : 0 ≤ a2 ∧ a2 ≤ 80) (h1 : 0 ≤ a3 ∧ a3 ≤ 80) (h2 : a3 ≤ a0) (h3 : a0 ≤ 80) (h4 : a1 ≠ 0 → a0 < a2) (r0 : -2147483648 ≤ a0 ∧ a0 < 2147483648) (r1 : -2147483648 ≤ a1 ∧ a1 < 2147483648) (r2 : -2147483648 ≤ a2 ∧ a2 < 2147483648) (r3 : -2147483648 ≤ a3 ∧ a3 < 2147483648) : 2147483648 - a0 < ((4294967297 : Nat) : Int) := by omega
abbrev rm_X11_isWord : Room := { frames := 2, cells := 0, slots := 0, locals := 45 }
set_option maxHeartbeats 4000000 in
set_option maxRecDepth 100000 in
theorem c_X11_isWord (l : Launch) (E : XE) (K : Nat → Nat) (F : Nat → Nat → Nat) (tl z0 z1 z2 z3 z4 z5 z6 z7 z8 z9 z10 z11 z12 z13 z14 z15 z16 z17 z18 z19 z20 : Int32) (ar0 ar1 ar2 ar3 ar4 ar5 ar6 ar7 ar8 ar9 ar10 : Nat → Int32) (a : Nat) (p0 n0 : Nat) (ha : K a = 13) (hp0 : XWd K p0 n0) (e0 : 0 ≤ z8.toInt ∧ z8.toInt ≤ 80) (e1 : 0 ≤ z9.toInt ∧ z9.toInt ≤ 80) : Met l yX11_isWord (xw yX11_isWord cX11_isWord 5 (some .boolean)) rm_X11_isWord (va_Pc [.ref a, .ref p0] (XP E K F (tl, [z0, z1, z2, z3, z4, z5, z6, z7, z8, z9, z10, z11, z12, z13, z14, z15, z16, z17, z18, z19, z20], [ar0, ar1, ar2, ar3, ar4, ar5, ar6, ar7, ar8, ar9, ar10]))) (XQ E (fun v (u : Int32) => ∃ r : Int32, v = .int r ∧ (r = 0 ∨ r = 1) ∧ (0 ≤ u.toInt ∧ u.toInt ≤ 80)) (fun u H => TW E K F (tl, [z0, z1, z2, z3, z4, z5, z6, z7, z8, u, z10, z11, z12, z13, z14, z15, z16, z17, z18, z19, z20], [ar0, ar1, ar2, ar3, ar4, ar5, ar6, ar7, ar8, ar9, ar10]) [] H)) 0 0 (xA E) := by
  refine x_enter (by decide) (Nat.le_of_ble_eq_true rfl) ?_
  intro p e s m args below meth c Q S hr hlk hnm hQ hP ls hl
  obtain ⟨hz, hK, hT⟩ := hP
  obtain ⟨hx, hb, -, -, -⟩ := id S
  obtain ⟨H, hT, hS, hgo⟩ : ∃ H : Heap, TW E K F (tl, [z0, z1, z2, z3, z4, z5, z6, z7, z8, z9, z10, z11, z12, z13, z14, z15, z16, z17, z18, z19, z20], [ar0, ar1, ar2, ar3, ar4, ar5, ar6, ar7, ar8, ar9, ar10]) [] H ∧ va_S (xA E) s.heap H [] ∧ H = s.heap := ⟨_, hT, va_S.rf, rfl⟩
  rw [← hgo]
  have hl : lv_has ls 5 [(0, .ref a), (1, .ref p0)] := hl
  refine lv_aload_n hx hb dX11_isWord_0 rfl (lv_at hl 0 rfl) ?_
  refine x_cl0 (x_runV (b := a) (As := []) (rest := []) S (c_X11_next l E K F tl z0 z1 z2 z3 z4 z5 z6 z7 z8 z9 z10 z11 z12 z13 z14 z15 z16 z17 z18 z19 z20 ar0 ar1 ar2 ar3 ar4 ar5 ar6 ar7 ar8 ar9 ar10 a ha (z_X11_isWord_1 z8.toInt e0 (xr z8)) (z_X11_isWord_2 z9.toInt e1 (xr z9))) mv_X11_next km_X11_268 rfl rfl ⟨Nat.le_of_ble_eq_true rfl, Nat.le_of_ble_eq_true rfl⟩ (rc_13 hK hT ha) hK (fun _ => XP.blind) (fun U hU hW => XP.at hK hz hS hT hU hW) rfl hl.1 (Nat.le_of_ble_eq_true rfl) dX11_isWord_1 ⟨Nat.le_of_ble_eq_true rfl, Nat.le_of_ble_eq_true rfl⟩) hS ?_
  rintro _ u1 H locs ⟨x3, rfl, t2⟩ hT hS
  have hT : TW E K F (tl, [z0, z1, z2, z3, z4, z5, z6, z7, z8, u1, z10, z11, z12, z13, z14, z15, z16, z17, z18, z19, z20], [ar0, ar1, ar2, ar3, ar4, ar5, ar6, ar7, ar8, ar9, ar10]) [] H := hT
  have t2 : z9.toInt ≤ u1.toInt ∧ u1.toInt ≤ 80 ∧ (x3.toInt ≠ 0 → u1.toInt < z8.toInt) := t2
  refine lv_pop hx hb dX11_isWord_4 rfl ?_
  refine lv_aload_n hx hb dX11_isWord_5 rfl (lv_at hl 0 rfl) ?_
  refine gX11_37 S hK hT ha kf_X11_256 dX11_isWord_6 (v := u1) rfl ?_
  refine lv_istore_n (lv' := [(2, .int u1), (0, .ref a), (1, .ref p0)]) hx hb dX11_isWord_9 rfl hl (by decide) rfl (fun ls hl => ?_)
  have L10 : ∀ (N6 : Nat) (x5 : Int32) (H : Heap) (locs : List Loc) (ls : Array Slot), 0 ≤ x5.toInt ∧ x5.toInt ≤ 80 → 2147483648 - x5.toInt < ((N6 : Nat) : Int) → TW E K F (tl, [z0, z1, z2, z3, z4, z5, z6, z7, z8, u1, z10, z11, z12, z13, z14, z15, z16, z17, z18, z19, z20], [ar0, ar1, ar2, ar3, ar4, ar5, ar6, ar7, ar8, ar9, ar10]) [] H → va_S (xA E) s.heap H locs → lv_has ls 5 [(0, .ref a), (1, .ref p0), (2, .int x5)] → W p l e rm_X11_isWord s m args below meth c H locs 0 0 Q (F0 m 10 ls []) := by
    intro N6
    induction N6 with
    | zero =>
      intro x5 H locs ls hf7 hm8
      exact absurd hm8 (z_X11_isWord_3 x5.toInt hf7 (xr x5))
    | succ N6 ih9 =>
      intro x5 H locs ls hf7 hm8 hT hS hl
      refine lv_aload_n hx hb dX11_isWord_10 rfl (lv_at hl 0 rfl) ?_
      refine lv_iload_n hx hb dX11_isWord_11 rfl (lv_at hl 2 rfl) ?_
      refine x_clp (x_runV (b := a) (As := [.int x5]) (rest := []) S (c_X11_signAt l E K F tl z0 z1 z2 z3 z4 z5 z6 z7 z8 u1 z10 z11 z12 z13 z14 z15 z16 z17 z18 z19 z20 ar0 ar1 ar2 ar3 ar4 ar5 ar6 ar7 ar8 ar9 ar10 H a x5 ha (z_X11_isWord_4 x5.toInt N6 hf7 hm8 (xr x5)) (z_X11_isWord_5 u1.toInt x3.toInt z8.toInt z9.toInt e0 e1 (t2).1 (t2).2.1 (t2).2.2 (xr u1) (xr x3) (xr z8) (xr z9))) mv_X11_signAt km_X11_259 rfl rfl ⟨Nat.le_of_ble_eq_true rfl, Nat.le_of_ble_eq_true rfl⟩ (rc_13 hK hT ha) hK (fun _ => XPh.blind) (fun U hU hW => XPh.at hK hz hS hT hU hW) rfl hl.1 (Nat.le_of_ble_eq_true rfl) dX11_isWord_12 ⟨Nat.le_of_ble_eq_true rfl, Nat.le_of_ble_eq_true rfl⟩) hS ?_
      rintro _ _ locs ⟨x11, rfl, t10⟩ hS
      have t10 : x11.toInt ≠ 0 → x5.toInt < z8.toInt := t10
      refine x_clp (x_runS (As := [.int x11]) (rest := []) S (c_X11_isLetter l E K F tl z0 z1 z2 z3 z4 z5 z6 z7 z8 u1 z10 z11 z12 z13 z14 z15 z16 z17 z18 z19 z20 ar0 ar1 ar2 ar3 ar4 ar5 ar6 ar7 ar8 ar9 ar10 H x11) ms_X11_isLetter km_X11_272 rfl rfl ⟨Nat.le_of_ble_eq_true rfl, Nat.le_of_ble_eq_true rfl⟩ hK (fun _ => XPh.blind) (fun U hU hW => XPh.at hK hz hS hT hU hW) rfl hl.1 (Nat.le_of_ble_eq_true rfl) dX11_isWord_15 ⟨Nat.le_of_ble_eq_true rfl, Nat.le_of_ble_eq_true rfl⟩) hS ?_
      rintro _ _ locs ⟨x14, rfl, b15, t13⟩ hS
      have t13 : (x14.toInt = 1 ∧ 97 ≤ x11.toInt ∧ x11.toInt ≤ 122) ∨ (x14.toInt = 0 ∧ (x11.toInt < 97 ∨ 122 < x11.toInt)) := t13
      refine xi_zeq (tgt := 27) hx hb (rfl : Int32.toInt x14 = x14.toInt) dX11_isWord_18 (by decide) (fun c16 => ?_) (fun c16 => ?_)
      · refine lv_aload_n hx hb dX11_isWord_27 rfl (lv_at hl 0 rfl) ?_
        refine gX11_39 S hK hT ha kf_X11_262 dX11_isWord_28 (v := z11) rfl ?_
        have J50 : ∀ (x17 : Int32) (H : Heap) (locs : List Loc) (ls : Array Slot), x17.toInt = 0 ∨ x17.toInt = 1 → TW E K F (tl, [z0, z1, z2, z3, z4, z5, z6, z7, z8, u1, z10, z11, z12, z13, z14, z15, z16, z17, z18, z19, z20], [ar0, ar1, ar2, ar3, ar4, ar5, ar6, ar7, ar8, ar9, ar10]) [] H → va_S (xA E) s.heap H locs → lv_has ls 5 [(0, .ref a), (1, .ref p0), (2, .int x5)] → W p l e rm_X11_isWord s m args below meth c H locs 0 0 Q (F0 m 50 ls [.int x17]) := by
          intro x17 H locs ls hf18 hT hS hl
          refine lv_istore_n (lv' := [(3, .int x17), (0, .ref a), (1, .ref p0), (2, .int x5)]) hx hb dX11_isWord_50 rfl hl (by decide) rfl (fun ls hl => ?_)
          refine lv_iconst (v := 0) hx hb dX11_isWord_51 (by decide) ?_
          refine lv_istore (lv' := [(4, .int 0), (3, .int x17), (0, .ref a), (1, .ref p0), (2, .int x5)]) hx hb dX11_isWord_52 hl (by decide) rfl (fun ls hl => ?_)
          have L54 : ∀ (N21 : Nat) (x19 : Int32) (x20 : Int32) (H : Heap) (locs : List Loc) (ls : Array Slot), x19.toInt = 0 ∨ x19.toInt = 1 → (0 : Int) ≤ x20.toInt → 2147483648 - x20.toInt < ((N21 : Nat) : Int) → TW E K F (tl, [z0, z1, z2, z3, z4, z5, z6, z7, z8, u1, z10, z11, z12, z13, z14, z15, z16, z17, z18, z19, z20], [ar0, ar1, ar2, ar3, ar4, ar5, ar6, ar7, ar8, ar9, ar10]) [] H → va_S (xA E) s.heap H locs → lv_has ls 5 [(0, .ref a), (1, .ref p0), (2, .int x5), (3, .int x19), (4, .int x20)] → W p l e rm_X11_isWord s m args below meth c H locs 0 0 Q (F0 m 54 ls []) := by
            intro N21
            induction N21 with
            | zero =>
              intro x19 x20 H locs ls hf22 hf23 hm24
              exact absurd hm24 (z_X11_isWord_6 x20.toInt hf23 (xr x20))
            | succ N21 ih25 =>
              intro x19 x20 H locs ls hf22 hf23 hm24 hT hS hl
              refine lv_iload_n hx hb dX11_isWord_54 rfl (lv_at hl 3 rfl) ?_
              have J95 : ∀ (H : Heap) (locs : List Loc) (ls : Array Slot), x19.toInt = 0 ∨ x19.toInt = 1 → TW E K F (tl, [z0, z1, z2, z3, z4, z5, z6, z7, z8, u1, z10, z11, z12, z13, z14, z15, z16, z17, z18, z19, z20], [ar0, ar1, ar2, ar3, ar4, ar5, ar6, ar7, ar8, ar9, ar10]) [] H → va_S (xA E) s.heap H locs → lv_has ls 5 [(0, .ref a), (2, .int x5), (3, .int x19)] → W p l e rm_X11_isWord s m args below meth c H locs 0 0 Q (F0 m 95 ls []) := by
                intro H locs ls hf26 hT hS hl
                refine lv_aload_n hx hb dX11_isWord_95 rfl (lv_at hl 0 rfl) ?_
                refine lv_iload_n hx hb dX11_isWord_96 rfl (lv_at hl 2 rfl) ?_
                refine xi_zeq (tgt := 104) hx hb (rfl : Int32.toInt x19 = x19.toInt) dX11_isWord_97 (by decide) (fun c27 => ?_) (fun c27 => ?_)
                · refine lv_aload_n hx hb dX11_isWord_104 rfl (lv_at hl 0 rfl) ?_
                  refine gX11_37 S hK hT ha kf_X11_256 dX11_isWord_105 (v := u1) rfl ?_
                  refine pX11_37 (kq := []) (v := u1) S hK hT hS ha kf_X11_256 (Nat.le_of_ble_eq_true rfl) dX11_isWord_108 (fun _ h => by cases h) (fun H locs hT hS => ?_)
                  have hT : TW E K F (tl, [z0, z1, z2, z3, z4, z5, z6, z7, z8, u1, z10, z11, z12, z13, z14, z15, z16, z17, z18, z19, z20], [ar0, ar1, ar2, ar3, ar4, ar5, ar6, ar7, ar8, ar9, ar10]) [] H := hT
                  refine lv_iload_n hx hb dX11_isWord_111 rfl (lv_at hl 2 rfl) ?_
                  exact x_rz hx hb hr (xnz (x01 (z_X11_isWord_9 x19.toInt hf22 hf26 c27 (xr x19)))) hlk hQ (Nat.le_of_ble_eq_true rfl) (Nat.le_of_ble_eq_true rfl) hS dX11_isWord_112 (u1) ⟨_, rfl, (x01 (z_X11_isWord_8 x19.toInt hf22 hf26 c27 (xr x19))), (z_X11_isWord_7 u1.toInt x11.toInt x14.toInt x3.toInt x5.toInt z8.toInt z9.toInt N6 e0 e1 (t2).1 (t2).2.1 (t2).2.2 hf7 hm8 t10 t13 (xbz b15) c16 (xr u1) (xr x11) (xr x14) (xr x3) (xr x5) (xr z8) (xr z9))⟩ hT.nil
                · refine lv_iload_n hx hb dX11_isWord_100 rfl (lv_at hl 1 rfl) ?_
                  refine lv_goto (tgt := 108) hx hb dX11_isWord_101 (by decide) ?_
                  refine pX11_37 (kq := []) (v := x5) S hK hT hS ha kf_X11_256 (Nat.le_of_ble_eq_true rfl) dX11_isWord_108 (fun _ h => by cases h) (fun H locs hT hS => ?_)
                  have hT : TW E K F (tl, [z0, z1, z2, z3, z4, z5, z6, z7, z8, x5, z10, z11, z12, z13, z14, z15, z16, z17, z18, z19, z20], [ar0, ar1, ar2, ar3, ar4, ar5, ar6, ar7, ar8, ar9, ar10]) [] H := hT
                  refine lv_iload_n hx hb dX11_isWord_111 rfl (lv_at hl 2 rfl) ?_
                  exact x_rz hx hb hr (xnz (x01 (z_X11_isWord_12 x19.toInt hf22 hf26 c27 (xr x19)))) hlk hQ (Nat.le_of_ble_eq_true rfl) (Nat.le_of_ble_eq_true rfl) hS dX11_isWord_112 (x5) ⟨_, rfl, (x01 (z_X11_isWord_11 x19.toInt hf22 hf26 c27 (xr x19))), (z_X11_isWord_10 u1.toInt x11.toInt x14.toInt x3.toInt x5.toInt z8.toInt z9.toInt N6 e0 e1 (t2).1 (t2).2.1 (t2).2.2 hf7 hm8 t10 t13 (xbz b15) c16 (xr u1) (xr x11) (xr x14) (xr x3) (xr x5) (xr z8) (xr z9))⟩ hT.nil
              refine xi_zeq (tgt := 95) hx hb (rfl : Int32.toInt x19 = x19.toInt) dX11_isWord_55 (by decide) (fun c28 => ?_) (fun c28 => ?_)
              · exact J95 _ _ _ (z_X11_isWord_13 x19.toInt hf22 c28 (xr x19)) hT.nil hS (lv_sub hl [0, 2, 3] rfl)
              · refine lv_iload hx hb dX11_isWord_58 (lv_at hl 4 rfl) ?_
                refine lv_aload_n hx hb dX11_isWord_60 rfl (lv_at hl 1 rfl) ?_
                refine len_wd S hK hT hp0 dX11_isWord_61 (fun x29 t30 => ?_)
                refine xi_cge (tgt := 95) hx hb (rfl : Int32.toInt x20 = x20.toInt) (rfl : Int32.toInt x29 = x29.toInt) dX11_isWord_62 (by decide) (fun c31 => ?_) (fun c31 => ?_)
                · exact J95 _ _ _ (z_X11_isWord_14 x19.toInt hf22 c28 (xr x19)) hT.nil hS (lv_sub hl [0, 2, 3] rfl)
                · refine lv_aload_n hx hb dX11_isWord_65 rfl (lv_at hl 0 rfl) ?_
                  refine lv_aload_n hx hb dX11_isWord_66 rfl (lv_at hl 0 rfl) ?_
                  refine gX11_37 S hK hT ha kf_X11_256 dX11_isWord_67 (v := u1) rfl ?_
                  refine lv_iload hx hb dX11_isWord_70 (lv_at hl 4 rfl) ?_
                  refine xi_iadd hx hb (rfl : Int32.toInt u1 = u1.toInt) (rfl : Int32.toInt x20 = x20.toInt) dX11_isWord_72 (fun x32 t33 => ?_)
                  refine x_clp (x_runV (b := a) (As := [.int x32]) (rest := []) S (c_X11_signAt l E K F tl z0 z1 z2 z3 z4 z5 z6 z7 z8 u1 z10 z11 z12 z13 z14 z15 z16 z17 z18 z19 z20 ar0 ar1 ar2 ar3 ar4 ar5 ar6 ar7 ar8 ar9 ar10 H a x32 ha (z_X11_isWord_15 u1.toInt x11.toInt x14.toInt x20.toInt x29.toInt x3.toInt x32.toInt x5.toInt z8.toInt z9.toInt N21 N6 n0 e0 e1 (XWd.lim hp0) (t2).1 (t2).2.1 (t2).2.2 hf7 hm8 t10 t13 (xbz b15) c16 hf23 hm24 t30 c31 t33 (xr u1) (xr x11) (xr x14) (xr x20) (xr x29) (xr x3) (xr x32) (xr x5) (xr z8) (xr z9)) (z_X11_isWord_16 u1.toInt x11.toInt x14.toInt x20.toInt x29.toInt x3.toInt x32.toInt x5.toInt z8.toInt z9.toInt N21 N6 n0 e0 e1 (XWd.lim hp0) (t2).1 (t2).2.1 (t2).2.2 hf7 hm8 t10 t13 (xbz b15) c16 hf23 hm24 t30 c31 t33 (xr u1) (xr x11) (xr x14) (xr x20) (xr x29) (xr x3) (xr x32) (xr x5) (xr z8) (xr z9))) mv_X11_signAt km_X11_259 rfl rfl ⟨Nat.le_of_ble_eq_true rfl, Nat.le_of_ble_eq_true rfl⟩ (rc_13 hK hT ha) hK (fun _ => XPh.blind) (fun U hU hW => XPh.at hK hz hS hT hU hW) rfl hl.1 (Nat.le_of_ble_eq_true rfl) dX11_isWord_73 ⟨Nat.le_of_ble_eq_true rfl, Nat.le_of_ble_eq_true rfl⟩) hS ?_
                  rintro _ _ locs ⟨x35, rfl, t34⟩ hS
                  have t34 : x35.toInt ≠ 0 → x32.toInt < z8.toInt := t34
                  refine lv_aload_n hx hb dX11_isWord_76 rfl (lv_at hl 1 rfl) ?_
                  refine lv_iload hx hb dX11_isWord_77 (lv_at hl 4 rfl) ?_
                  refine ald_wd S hK hT hp0 (z_X11_isWord_17 u1.toInt x11.toInt x14.toInt x20.toInt x29.toInt x3.toInt x32.toInt x35.toInt x5.toInt z8.toInt z9.toInt N21 N6 n0 e0 e1 (XWd.lim hp0) (t2).1 (t2).2.1 (t2).2.2 hf7 hm8 t10 t13 (xbz b15) c16 hf23 hm24 t30 c31 t33 t34 (xr u1) (xr x11) (xr x14) (xr x20) (xr x29) (xr x3) (xr x32) (xr x35) (xr x5) (xr z8) (xr z9)) dX11_isWord_79 (fun x37 => ?_)
                  have J88 : ∀ (x38 : Int32) (H : Heap) (locs : List Loc) (ls : Array Slot), x38.toInt = 0 ∨ x38.toInt = 1 → TW E K F (tl, [z0, z1, z2, z3, z4, z5, z6, z7, z8, u1, z10, z11, z12, z13, z14, z15, z16, z17, z18, z19, z20], [ar0, ar1, ar2, ar3, ar4, ar5, ar6, ar7, ar8, ar9, ar10]) [] H → va_S (xA E) s.heap H locs → lv_has ls 5 [(0, .ref a), (1, .ref p0), (2, .int x5), (4, .int x20)] → W p l e rm_X11_isWord s m args below meth c H locs 0 0 Q (F0 m 88 ls [.int x38]) := by
                    intro x38 H locs ls hf39 hT hS hl
                    refine lv_istore_n (lv' := [(3, .int x38), (0, .ref a), (1, .ref p0), (2, .int x5), (4, .int x20)]) hx hb dX11_isWord_88 rfl hl (by decide) rfl (fun ls hl => ?_)
                    refine xi_iinc (n := 1) (lv' := fun z9 => [(4, .int z9), (3, .int x38), (0, .ref a), (1, .ref p0), (2, .int x5)]) (k := 4) hx hb (rfl : Int32.toInt x20 = x20.toInt) (by decide) dX11_isWord_89 hl rfl (by decide) (fun _ => rfl) (fun x40 ls t41 hl => ?_)
                    have hl : lv_has ls 5 [(4, .int x40), (3, .int x38), (0, .ref a), (1, .ref p0), (2, .int x5)] := hl
                    refine lv_goto (tgt := 54) hx hb dX11_isWord_92 (by decide) ?_
                    exact ih25 x38 x40 _ _ _ (z_X11_isWord_18 x38.toInt hf39 (xr x38)) (z_X11_isWord_19 u1.toInt x11.toInt x14.toInt x20.toInt x29.toInt x3.toInt x32.toInt x35.toInt x40.toInt x5.toInt z8.toInt z9.toInt N21 N6 n0 e0 e1 (XWd.lim hp0) (t2).1 (t2).2.1 (t2).2.2 hf7 hm8 t10 t13 (xbz b15) c16 hf23 hm24 t30 c31 t33 t34 t41 (xr u1) (xr x11) (xr x14) (xr x20) (xr x29) (xr x3) (xr x32) (xr x35) (xr x40) (xr x5) (xr z8) (xr z9)) (z_X11_isWord_20 u1.toInt x11.toInt x14.toInt x20.toInt x29.toInt x3.toInt x32.toInt x35.toInt x40.toInt x5.toInt z8.toInt z9.toInt N21 N6 n0 e0 e1 (XWd.lim hp0) (t2).1 (t2).2.1 (t2).2.2 hf7 hm8 t10 t13 (xbz b15) c16 hf23 hm24 t30 c31 t33 t34 t41 (xr u1) (xr x11) (xr x14) (xr x20) (xr x29) (xr x3) (xr x32) (xr x35) (xr x40) (xr x5) (xr z8) (xr z9)) hT.nil hS (lv_sub hl [2, 3, 4, 1, 0] rfl)
                  refine xi_cne (tgt := 87) hx hb (rfl : Int32.toInt x35 = x35.toInt) (rfl : Int32.toInt x37 = x37.toInt) dX11_isWord_80 (by decide) (fun c42 => ?_) (fun c42 => ?_)
                  · refine lv_iconst (v := 0) hx hb dX11_isWord_87 (by decide) ?_
                    exact J88 0 _ _ _ (by decide) hT.nil hS (lv_sub hl [0, 1, 2, 4] rfl)
                  · refine lv_iconst (v := 1) hx hb dX11_isWord_83 (by decide) ?_
                    refine lv_goto (tgt := 88) hx hb dX11_isWord_84 (by decide) ?_
                    exact J88 1 _ _ _ (by decide) hT.nil hS (lv_sub hl [0, 1, 2, 4] rfl)
          exact L54 4294967297 x17 0 _ _ _ (z_X11_isWord_21 x17.toInt hf18 (xr x17)) (by decide) (by decide) hT.nil hS (lv_sub hl [2, 3, 4, 1, 0] rfl)
        have J49 : ∀ (H : Heap) (locs : List Loc) (ls : Array Slot), TW E K F (tl, [z0, z1, z2, z3, z4, z5, z6, z7, z8, u1, z10, z11, z12, z13, z14, z15, z16, z17, z18, z19, z20], [ar0, ar1, ar2, ar3, ar4, ar5, ar6, ar7, ar8, ar9, ar10]) [] H → va_S (xA E) s.heap H locs → lv_has ls 5 [(0, .ref a), (1, .ref p0), (2, .int x5)] → W p l e rm_X11_isWord s m args below meth c H locs 0 0 Q (F0 m 49 ls []) := by
          intro H locs ls hT hS hl
          refine lv_iconst (v := 0) hx hb dX11_isWord_49 (by decide) ?_
          exact J50 0 _ _ _ (by decide) hT.nil hS (lv_sub hl [0, 1, 2] rfl)
        refine xi_zeq (tgt := 49) hx hb (rfl : Int32.toInt z11 = z11.toInt) dX11_isWord_31 (by decide) (fun c43 => ?_) (fun c43 => ?_)
        · exact J49 _ _ _ hT.nil hS (lv_sub hl [0, 1, 2] rfl)
        · refine lv_iload_n hx hb dX11_isWord_34 rfl (lv_at hl 2 rfl) ?_
          refine lv_aload_n hx hb dX11_isWord_35 rfl (lv_at hl 0 rfl) ?_
          refine gX11_37 S hK hT ha kf_X11_256 dX11_isWord_36 (v := u1) rfl ?_
          refine xi_isub hx hb (rfl : Int32.toInt x5 = x5.toInt) (rfl : Int32.toInt u1 = u1.toInt) dX11_isWord_39 (fun x44 t45 => ?_)
          refine lv_aload_n hx hb dX11_isWord_40 rfl (lv_at hl 1 rfl) ?_
          refine len_wd S hK hT hp0 dX11_isWord_41 (fun x46 t47 => ?_)
          refine xi_cne (tgt := 49) hx hb (rfl : Int32.toInt x44 = x44.toInt) (rfl : Int32.toInt x46 = x46.toInt) dX11_isWord_42 (by decide) (fun c48 => ?_) (fun c48 => ?_)
          · exact J49 _ _ _ hT.nil hS (lv_sub hl [0, 1, 2] rfl)
          · refine lv_iconst (v := 1) hx hb dX11_isWord_45 (by decide) ?_
            refine lv_goto (tgt := 50) hx hb dX11_isWord_46 (by decide) ?_
            exact J50 1 _ _ _ (by decide) hT.nil hS (lv_sub hl [0, 1, 2] rfl)
      · refine xi_iinc (n := 1) (lv' := fun z9 => [(2, .int z9), (0, .ref a), (1, .ref p0)]) (k := 2) hx hb (rfl : Int32.toInt x5 = x5.toInt) (by decide) dX11_isWord_21 hl rfl (by decide) (fun _ => rfl) (fun x49 ls t50 hl => ?_)
        have hl : lv_has ls 5 [(2, .int x49), (0, .ref a), (1, .ref p0)] := hl
        refine lv_goto (tgt := 10) hx hb dX11_isWord_24 (by decide) ?_
        exact ih9 x49 _ _ _ (z_X11_isWord_22 u1.toInt x11.toInt x14.toInt x3.toInt x49.toInt x5.toInt z8.toInt z9.toInt N6 e0 e1 (t2).1 (t2).2.1 (t2).2.2 hf7 hm8 t10 t13 (xbz b15) c16 t50 (xr u1) (xr x11) (xr x14) (xr x3) (xr x49) (xr x5) (xr z8) (xr z9)) (z_X11_isWord_23 u1.toInt x11.toInt x14.toInt x3.toInt x49.toInt x5.toInt z8.toInt z9.toInt N6 e0 e1 (t2).1 (t2).2.1 (t2).2.2 hf7 hm8 t10 t13 (xbz b15) c16 t50 (xr u1) (xr x11) (xr x14) (xr x3) (xr x49) (xr x5) (xr z8) (xr z9)) hT.nil hS (lv_sub hl [1, 2, 0] rfl)
  exact L10 4294967297 u1 _ _ _ (z_X11_isWord_24 u1.toInt x3.toInt z8.toInt z9.toInt e0 e1 (t2).1 (t2).2.1 (t2).2.2 (xr u1) (xr x3) (xr z8) (xr z9)) (z_X11_isWord_25 u1.toInt x3.toInt z8.toInt z9.toInt e0 e1 (t2).1 (t2).2.1 (t2).2.2 (xr u1) (xr x3) (xr z8) (xr z9)) hT.nil hS (lv_sub hl [1, 2, 0] rfl)

theorem z_X11_number_1 (a0 : Int) (h0 : 0 ≤ a0 ∧ a0 ≤ 80) (r0 : -2147483648 ≤ a0 ∧ a0 < 2147483648) : 0 ≤ a0 ∧ a0 ≤ 80 := by omega
theorem z_X11_number_2 (a0 : Int) (h0 : 0 ≤ a0 ∧ a0 ≤ 80) (r0 : -2147483648 ≤ a0 ∧ a0 < 2147483648) : 0 ≤ a0 ∧ a0 ≤ 80 := by omega
theorem z_X11_number_3 (a0 : Int) (h0 : 0 ≤ a0 ∧ a0 ≤ 80) (r0 : -2147483648 ≤ a0 ∧ a0 < 2147483648) : ¬ (2147483648 - a0 < ((0 : Nat) : Int)) := by omega
theorem z_X11_number_4 (a0 : Int) (a1 : Nat) (h0 : 0 ≤ a0 ∧ a0 ≤ 80) (h1 : 2147483648 - a0 < ((a1 + 1 : Nat) : Int)) (r0 : -2147483648 ≤ a0 ∧ a0 < 2147483648) : 0 ≤ a0 := by omega
theorem z_X11_number_5 (a0 : Int) (a1 : Int) (a2 : Int) (a3 : Int) (a4 : Int) (h0 : 0 ≤ a3 ∧ a3 ≤ 80) (h1 : 0 ≤ a4 ∧ a4 ≤ 80) (h2 : a4 ≤ a0) (h3 : a0 ≤ 80) (h4 : a1 ≠ 0 → a0 < a3) (h5 : a2 = 0 ∨ a2 = 1) (h6 : a2 = 1 → a0 < a3) (r0 : -2147483648 ≤ a0 ∧ a0 < 2147483648) (r1 : -2147483648 ≤ a1 ∧ a1 < 2147483648) (r2 : -2147483648 ≤ a2 ∧ a2 < 2147483648) (r3 : -2147483648 ≤ a3 ∧ a3 < 2147483648) (r4 : -2147483648 ≤ a4 ∧ a4 < 2147483648) : 0 ≤ a3 ∧ a3 ≤ 80 := by first | (clear h5; omega) | omega
theorem z_X11_number_6 (a0 : Int) (a1 : Int) (a2 : Int) (a3 : Int) (a4 : Int) (a5 : Int) (a6 : Int) (a7 : Int) (a8 : Int) (a9 : Int) (a10 : Int) (a11 : Nat) (h0 : 0 ≤ a9 ∧ a9 ≤ 80) (h1 : 0 ≤ a10 ∧ a10 ≤ 80) (h2 : a10 ≤ a2) (h3 : a2 ≤ 80) (h4 : a7 ≠ 0 → a2 < a9) (h5 : a8 = 0 ∨ a8 = 1) (h6 : a8 = 1 → a2 < a9) (h7 : 0 ≤ a4 ∧ a4 ≤ 80) (h8 : 2147483648 - a4 < ((a11 + 1 : Nat) : Int)) (h9 : a5 ≠ 0 → a4 < a9) (h10 : (a6 = 1 ∧ 48 ≤ a5 ∧ a5 ≤ 57) ∨ (a6 = 0 ∧ (a5 < 48 ∨ 57 < a5))) (h11 : a6 = 0 ∨ a6 = 1) (h12 : a6 = 0) (h13 : a3 = 0) (r0 : -2147483648 ≤ a0 ∧ a0 < 2147483648) (r1 : -2147483648 ≤ a1 ∧ a1 < 2147483648) (r2 : -2147483648 ≤ a2 ∧ a2 < 2147483648) (r3 : -2147483648 ≤ a3 ∧ a3 < 2147483648) (r4 : -2147483648 ≤ a4 ∧ a4 < 2147483648) (r5 : -2147483648 ≤ a5 ∧ a5 < 2147483648) (r6 : -2147483648 ≤ a6 ∧ a6 < 2147483648) (r7 : -2147483648 ≤ a7 ∧ a7 < 2147483648) (r8 : -2147483648 ≤ a8 ∧ a8 < 2147483648) (r9 : -2147483648 ≤ a9 ∧ a9 < 2147483648) (r10 : -2147483648 ≤ a10 ∧ a10 < 2147483648) : 0 ≤ a2 ∧ a2 ≤ 80 ∧ ((0 : Int) = 0 ∨ (a0 ≤ (0 : Int) ∧ (0 : Int) ≤ a1)) ∧ (a3 = 0 ∨ a3 = 1) := by first | (clear h5 h9 h10 h11; omega) | (clear h10 h11; omega) | (clear h11; omega) | omega
theorem z_X11_number_7 (a0 : Int) (a1 : Int) (a2 : Int) (a3 : Int) (a4 : Int) (a5 : Int) (a6 : Int) (a7 : Int) (a8 : Int) (a9 : Int) (a10 : Int) (a11 : Int) (a12 : Int) (a13 : Nat) (h0 : 0 ≤ a11 ∧ a11 ≤ 80) (h1 : 0 ≤ a12 ∧ a12 ≤ 80) (h2 : a10 = 0 ∨ a10 = 1) (h3 : a10 ≠ 0) (h4 : a12 ≤ a2) (h5 : a2 ≤ 80) (h6 : a8 ≠ 0 → a2 < a11) (h7 : a9 = 0 ∨ a9 = 1) (h8 : a9 = 1 → a2 < a11) (h9 : 0 ≤ a3 ∧ a3 ≤ 80) (h10 : 2147483648 - a3 < ((a13 + 1 : Nat) : Int)) (h11 : a4 ≠ 0 → a3 < a11) (h12 : (a5 = 1 ∧ 48 ≤ a4 ∧ a4 ≤ 57) ∨ (a5 = 0 ∧ (a4 < 48 ∨ 57 < a4))) (h13 : a5 = 0 ∨ a5 = 1) (h14 : a5 = 0) (h15 : (a7 = 1 ∧ a0 ≤ a6 ∧ a6 ≤ a1) ∨ (a7 = 0 ∧ (a6 < a0 ∨ a1 < a6))) (h16 : a7 ≠ 0) (r0 : -2147483648 ≤ a0 ∧ a0 < 2147483648) (r1 : -2147483648 ≤ a1 ∧ a1 < 2147483648) (r2 : -2147483648 ≤ a2 ∧ a2 < 2147483648) (r3 : -2147483648 ≤ a3 ∧ a3 < 2147483648) (r4 : -2147483648 ≤ a4 ∧ a4 < 2147483648) (r5 : -2147483648 ≤ a5 ∧ a5 < 2147483648) (r6 : -2147483648 ≤ a6 ∧ a6 < 2147483648) (r7 : -2147483648 ≤ a7 ∧ a7 < 2147483648) (r8 : -2147483648 ≤ a8 ∧ a8 < 2147483648) (r9 : -2147483648 ≤ a9 ∧ a9 < 2147483648) (r10 : -2147483648 ≤ a10 ∧ a10 < 2147483648) (r11 : -2147483648 ≤ a11 ∧ a11 < 2147483648) (r12 : -2147483648 ≤ a12 ∧ a12 < 2147483648) : 0 ≤ a3 ∧ a3 ≤ 80 ∧ (a6 = 0 ∨ (a0 ≤ a6 ∧ a6 ≤ a1)) ∧ (a10 = 0 ∨ a10 = 1) := by first | (clear h6 h7 h8 h12 h13 h16; omega) | (clear h7 h13; omega) | omega
theorem z_X11_number_8 (a0 : Int) (a1 : Int) (a2 : Int) (a3 : Int) (a4 : Int) (a5 : Int) (a6 : Int) (a7 : Int) (a8 : Int) (a9 : Nat) (h0 : 0 ≤ a7 ∧ a7 ≤ 80) (h1 : 0 ≤ a8 ∧ a8 ≤ 80) (h2 : a8 ≤ a0) (h3 : a0 ≤ 80) (h4 : a4 ≠ 0 → a0 < a7) (h5 : a6 = 0 ∨ a6 = 1) (h6 : a6 = 1 → a0 < a7) (h7 : 0 ≤ a1 ∧ a1 ≤ 80) (h8 : 2147483648 - a1 < ((a9 + 1 : Nat) : Int)) (h9 : a2 ≠ 0 → a1 < a7) (h10 : (a3 = 1 ∧ 48 ≤ a2 ∧ a2 ≤ 57) ∨ (a3 = 0 ∧ (a2 < 48 ∨ 57 < a2))) (h11 : a3 = 0 ∨ a3 = 1) (h12 : ¬ (a3 = 0)) (h13 : a5 = a1 + 1 ∨ a1 + 1 < -2147483648 ∨ 2147483648 ≤ a1 + 1) (r0 : -2147483648 ≤ a0 ∧ a0 < 2147483648) (r1 : -2147483648 ≤ a1 ∧ a1 < 2147483648) (r2 : -2147483648 ≤ a2 ∧ a2 < 2147483648) (r3 : -2147483648 ≤ a3 ∧ a3 < 2147483648) (r4 : -2147483648 ≤ a4 ∧ a4 < 2147483648) (r5 : -2147483648 ≤ a5 ∧ a5 < 2147483648) (r6 : -2147483648 ≤ a6 ∧ a6 < 2147483648) (r7 : -2147483648 ≤ a7 ∧ a7 < 2147483648) (r8 : -2147483648 ≤ a8 ∧ a8 < 2147483648) : 0 ≤ a5 ∧ a5 ≤ 80 := by first | (clear h4 h5 h6 h9 h10 h11 h12; omega) | (clear h4 h5 h6 h10 h11 h12; omega) | (clear h5 h11 h12; omega) | omega
theorem z_X11_number_9 (a0 : Int) (a1 : Int) (a2 : Int) (a3 : Int) (a4 : Int) (a5 : Int) (a6 : Int) (a7 : Int) (a8 : Int) (a9 : Nat) (h0 : 0 ≤ a7 ∧ a7 ≤ 80) (h1 : 0 ≤ a8 ∧ a8 ≤ 80) (h2 : a8 ≤ a0) (h3 : a0 ≤ 80) (h4 : a4 ≠ 0 → a0 < a7) (h5 : a6 = 0 ∨ a6 = 1) (h6 : a6 = 1 → a0 < a7) (h7 : 0 ≤ a1 ∧ a1 ≤ 80) (h8 : 2147483648 - a1 < ((a9 + 1 : Nat) : Int)) (h9 : a2 ≠ 0 → a1 < a7) (h10 : (a3 = 1 ∧ 48 ≤ a2 ∧ a2 ≤ 57) ∨ (a3 = 0 ∧ (a2 < 48 ∨ 57 < a2))) (h11 : a3 = 0 ∨ a3 = 1) (h12 : ¬ (a3 = 0)) (h13 : a5 = a1 + 1 ∨ a1 + 1 < -2147483648 ∨ 2147483648 ≤ a1 + 1) (r0 : -2147483648 ≤ a0 ∧ a0 < 2147483648) (r1 : -2147483648 ≤ a1 ∧ a1 < 2147483648) (r2 : -2147483648 ≤ a2 ∧ a2 < 2147483648) (r3 : -2147483648 ≤ a3 ∧ a3 < 2147483648) (r4 : -2147483648 ≤ a4 ∧ a4 < 2147483648) (r5 : -2147483648 ≤ a5 ∧ a5 < 2147483648) (r6 : -2147483648 ≤ a6 ∧ a6 < 2147483648) (r7 : -2147483648 ≤ a7 ∧ a7 < 2147483648) (r8 : -2147483648 ≤ a8 ∧ a8 < 2147483648) : 2147483648 - a5 < ((a9 : Nat) : Int) := by first | (clear h4 h5 h6 h9 h10 h11 h12; omega) | (clear h4 h5 h6 h10 h11 h12; omega) | (clear h5 h11 h12; omega) | omega
theorem z_X11_number_10 (a0 : Int) (a1 : Int) (a2 : Int) (a3 : Int) (a4 : Int) (a5 : Int) (a6 : Int) (a7 : Int) (a8 : Nat) (h0 : 0 ≤ a6 ∧ a6 ≤ 80) (h1 : 0 ≤ a7 ∧ a7 ≤ 80) (h2 : a7 ≤ a0) (h3 : a0 ≤ 80) (h4 : a4 ≠ 0 → a0 < a6) (h5 : a5 = 0 ∨ a5 = 1) (h6 : a5 = 1 → a0 < a6) (h7 : 0 ≤ a1 ∧ a1 ≤ 80) (h8 : 2147483648 - a1 < ((a8 + 1 : Nat) : Int)) (h9 : a2 ≠ 0 → a1 < a6) (h10 : (a3 = 1 ∧ 48 ≤ a2 ∧ a2 ≤ 57) ∨ (a3 = 0 ∧ (a2 < 48 ∨ 57 < a2))) (h11 : a3 = 0 ∨ a3 = 1) (h12 : ¬ (a3 = 0)) (r0 : -2147483648 ≤ a0 ∧ a0 < 2147483648) (r1 : -2147483648 ≤ a1 ∧ a1 < 2147483648) (r2 : -2147483648 ≤ a2 ∧ a2 < 2147483648) (r3 : -2147483648 ≤ a3 ∧ a3 < 2147483648) (r4 : -2147483648 ≤ a4 ∧ a4 < 2147483648) (r5 : -2147483648 ≤ a5 ∧ a5 < 2147483648) (r6 : -2147483648 ≤ a6 ∧ a6 < 2147483648) (r7 : -2147483648 ≤ a7 ∧ a7 < 2147483648) : 0 ≤ a1 := by first | (clear h4 h5 h6 h10 h11 h12; omega) | (clear h5 h11 h12; omega) | omega
theorem z_X11_number_11 (a0 : Int) (a1 : Int) (a2 : Int) (a3 : Int) (a4 : Int) (a5 : Int) (a6 : Int) (a7 : Int) (a8 : Nat) (h0 : 0 ≤ a6 ∧ a6 ≤ 80) (h1 : 0 ≤ a7 ∧ a7 ≤ 80) (h2 : a7 ≤ a0) (h3 : a0 ≤ 80) (h4 : a4 ≠ 0 → a0 < a6) (h5 : a5 = 0 ∨ a5 = 1) (h6 : a5 = 1 → a0 < a6) (h7 : 0 ≤ a1 ∧ a1 ≤ 80) (h8 : 2147483648 - a1 < ((a8 + 1 : Nat) : Int)) (h9 : a2 ≠ 0 → a1 < a6) (h10 : (a3 = 1 ∧ 48 ≤ a2 ∧ a2 ≤ 57) ∨ (a3 = 0 ∧ (a2 < 48 ∨ 57 < a2))) (h11 : a3 = 0 ∨ a3 = 1) (h12 : ¬ (a3 = 0)) (r0 : -2147483648 ≤ a0 ∧ a0 < 2147483648) (r1 : -2147483648 ≤ a1 ∧ a1 < 2147483648) (r2 : -2147483648 ≤ a2 ∧ a2 < 2147483648) (r3 : -2147483648 ≤ a3 ∧ a3 < 2147483648) (r4 : -2147483648 ≤ a4 ∧ a4 < 2147483648) (r5 : -2147483648 ≤ a5 ∧ a5 < 2147483648) (r6 : -2147483648 ≤ a6 ∧ a6 < 2147483648) (r7 : -2147483648 ≤ a7 ∧ a7 < 2147483648) : 0 ≤ a6 ∧ a6 ≤ 80 := by first | (clear h5 h10 h11 h12; omega) | (clear h11 h12; omega) | omega
theorem z_X11_number_12 (a0 : Int) (h0 : 0 ≤ a0 ∧ a0 ≤ 80) (r0 : -2147483648 ≤ a0 ∧ a0 < 2147483648) : 0 ≤ a0 ∧ a0 ≤ 80 := by omega
theorem z_X11_number_13 (a0 : Int) (h0 : 0 ≤ a0 ∧ a0 ≤ 80) (r0 : -2147483648 ≤ a0 ∧ a0 < 2147483648) : 2147483648 - a0 < ((4294967297 : Nat) : Int) := by omega
theorem z_X11_number_14 (a0 : Int) (a1 : Int) (a2 : Int) (a3 : Int) (a4 : Int) (h0 : 0 ≤ a3 ∧ a3 ≤ 80) (h1 : 0 ≤ a4 ∧ a4 ≤ 80) (h2 : a4 ≤ a0) (h3 : a0 ≤ 80) (h4 : a1 ≠ 0 → a0 < a3) (h5 : a2 = 0 ∨ a2 = 1) (h6 : a2 = 1 → a0 < a3) (h7 : a2 = 0) (r0 : -2147483648 ≤ a0 ∧ a0 < 2147483648) (r1 : -2147483648 ≤ a1 ∧ a1 < 2147483648) (r2 : -2147483648 ≤ a2 ∧ a2 < 2147483648) (r3 : -2147483648 ≤ a3 ∧ a3 < 2147483648) (r4 : -2147483648 ≤ a4 ∧ a4 < 2147483648) : 0 ≤ a0 ∧ a0 ≤ 80 := by first | (clear h5; omega) | omega
theorem z_X11_number_15 (a0 : Int) (a1 : Int) (a2 : Int) (a3 : Int) (a4 : Int) (a5 : Int) (h0 : 0 ≤ a4 ∧ a4 ≤ 80) (h1 : 0 ≤ a5 ∧ a5 ≤ 80) (h2 : a5 ≤ a0) (h3 : a0 ≤ 80) (h4 : a1 ≠ 0 → a0 < a4) (h5 : a3 = 0 ∨ a3 = 1) (h6 : a3 = 1 → a0 < a4) (h7 : ¬ (a3 = 0)) (h8 : a2 = a0 + (1 : Int) ∨ a0 + (1 : Int) < -2147483648 ∨ 2147483648 ≤ a0 + (1 : Int)) (r0 : -2147483648 ≤ a0 ∧ a0 < 2147483648) (r1 : -2147483648 ≤ a1 ∧ a1 < 2147483648) (r2 : -2147483648 ≤ a2 ∧ a2 < 2147483648) (r3 : -2147483648 ≤ a3 ∧ a3 < 2147483648) (r4 : -2147483648 ≤ a4 ∧ a4 < 2147483648) (r5 : -2147483648 ≤ a5 ∧ a5 < 2147483648) : 0 ≤ a2 ∧ a2 ≤ 80 := by first | (clear h4 h5 h6 h7; omega) | (clear h5 h7; omega) | omega
theorem z_X11_number_16 (a0 : Int) (a1 : Int) (a2 : Int) (a3 : Int) (h0 : 0 ≤ a2 ∧ a2 ≤ 80) (h1 : 0 ≤ a3 ∧ a3 ≤ 80) (h2 : a3 ≤ a0) (h3 : a0 ≤ 80) (h4 : a1 ≠ 0 → a0 < a2) (h5 : a1 ≠ (45 : Int)) (r0 : -2147483648 ≤ a0 ∧ a0 < 2147483648) (r1 : -2147483648 ≤ a1 ∧ a1 < 2147483648) (r2 : -2147483648 ≤ a2 ∧ a2 < 2147483648) (r3 : -2147483648 ≤ a3 ∧ a3 < 2147483648) : ((0 : Int) = 0 ∨ (0 : Int) = 1) ∧ ((0 : Int) = 1 → a0 < a2) := by first | (clear h5; omega) | omega
theorem z_X11_number_17 (a0 : Int) (a1 : Int) (a2 : Int) (a3 : Int) (h0 : 0 ≤ a2 ∧ a2 ≤ 80) (h1 : 0 ≤ a3 ∧ a3 ≤ 80) (h2 : a3 ≤ a0) (h3 : a0 ≤ 80) (h4 : a1 ≠ 0 → a0 < a2) (h5 : ¬ (a1 ≠ (45 : Int))) (r0 : -2147483648 ≤ a0 ∧ a0 < 2147483648) (r1 : -2147483648 ≤ a1 ∧ a1 < 2147483648) (r2 : -2147483648 ≤ a2 ∧ a2 < 2147483648) (r3 : -2147483648 ≤ a3 ∧ a3 < 2147483648) : ((1 : Int) = 0 ∨ (1 : Int) = 1) ∧ ((1 : Int) = 1 → a0 < a2) := by first | (clear h5; omega) | omega
theorem z_X11_number_18 (a0 : Int) (a1 : Int) (a2 : Int) (a3 : Int) (h0 : 0 ≤ a3 ∧ a3 ≤ 80) (h1 : a2 = 0 ∨ a2 = 1) (h2 : ¬ (a2 ≠ 0)) (r0 : -2147483648 ≤ a0 ∧ a0 < 2147483648) (r1 : -2147483648 ≤ a1 ∧ a1 < 2147483648) (r2 : -2147483648 ≤ a2 ∧ a2 < 2147483648) (r3 : -2147483648 ≤ a3 ∧ a3 < 2147483648) : 0 ≤ a3 ∧ a3 ≤ 80 ∧ ((0 : Int) = 0 ∨ (a0 ≤ (0 : Int) ∧ (0 : Int) ≤ a1)) ∧ (a2 = 0 ∨ a2 = 1) := by omega
abbrev rm_X11_number : Room := { frames := 2, cells := 0, slots := 0, locals := 45 }
set_option maxHeartbeats 4000000 in
set_option maxRecDepth 100000 in
theorem c_X11_number (l : Launch) (E : XE) (K : Nat → Nat) (F : Nat → Nat → Nat) (tl z0 z1 z2 z3 z4 z5 z6 z7 z8 z9 z10 z11 z12 z13 z14 z15 z16 z17 z18 z19 z20 : Int32) (ar0 ar1 ar2 ar3 ar4 ar5 ar6 ar7 ar8 ar9 ar10 : Nat → Int32) (a : Nat) (p0 : Int32) (p1 : Int32) (ha : K a = 13) (e0 : 0 ≤ z8.toInt ∧ z8.toInt ≤ 80) (e1 : 0 ≤ z9.toInt ∧ z9.toInt ≤ 80) (e2 : z11.toInt = 0 ∨ z11.toInt = 1) : Met l yX11_number (xw yX11_number cX11_number 8 (some .int)) rm_X11_number (va_Pc [.ref a, .int p0, .int p1] (XP E K F (tl, [z0, z1, z2, z3, z4, z5, z6, z7, z8, z9, z10, z11, z12, z13, z14, z15, z16, z17, z18, z19, z20], [ar0, ar1, ar2, ar3, ar4, ar5, ar6, ar7, ar8, ar9, ar10]))) (XQ E (fun v (u : Int32 × Int32 × Int32) => ∃ r : Int32, v = .int r ∧ (0 ≤ u.1.toInt ∧ u.1.toInt ≤ 80 ∧ (r.toInt = 0 ∨ (p0.toInt ≤ r.toInt ∧ r.toInt ≤ p1.toInt)) ∧ (u.2.2.toInt = 0 ∨ u.2.2.toInt = 1))) (fun u H => TW E K F (tl, [z0, z1, z2, z3, z4, z5, z6, z7, z8, u.1, u.2.1, u.2.2, z12, z13, z14, z15, z16, z17, z18, z19, z20], [ar0, ar1, ar2, ar3, ar4, ar5, ar6, ar7, ar8, ar9, ar10]) [] H)) 0 0 (xA E) := by
  refine x_enter (by decide) (Nat.le_of_ble_eq_true rfl) ?_
  intro p e s m args below meth c Q S hr hlk hnm hQ hP ls hl
  obtain ⟨hz, hK, hT⟩ := hP
  obtain ⟨hx, hb, -, -, -⟩ := id S
  obtain ⟨H, hT, hS, hgo⟩ : ∃ H : Heap, TW E K F (tl, [z0, z1, z2, z3, z4, z5, z6, z7, z8, z9, z10, z11, z12, z13, z14, z15, z16, z17, z18, z19, z20], [ar0, ar1, ar2, ar3, ar4, ar5, ar6, ar7, ar8, ar9, ar10]) [] H ∧ va_S (xA E) s.heap H [] ∧ H = s.heap := ⟨_, hT, va_S.rf, rfl⟩
  rw [← hgo]
  have hl : lv_has ls 8 [(0, .ref a), (1, .int p0), (2, .int p1)] := hl
  refine lv_aload_n hx hb dX11_number_0 rfl (lv_at hl 0 rfl) ?_
  refine gX11_39 S hK hT ha kf_X11_262 dX11_number_1 (v := z11) rfl ?_
  refine xi_zne (tgt := 9) hx hb (rfl : Int32.toInt z11 = z11.toInt) dX11_number_4 (by decide) (fun c1 => ?_) (fun c1 => ?_)
  · refine lv_aload_n hx hb dX11_number_9 rfl (lv_at hl 0 rfl) ?_
    refine x_cl0 (x_runV (b := a) (As := []) (rest := []) S (c_X11_next l E K F tl z0 z1 z2 z3 z4 z5 z6 z7 z8 z9 z10 z11 z12 z13 z14 z15 z16 z17 z18 z19 z20 ar0 ar1 ar2 ar3 ar4 ar5 ar6 ar7 ar8 ar9 ar10 a ha (z_X11_number_1 z8.toInt e0 (xr z8)) (z_X11_number_2 z9.toInt e1 (xr z9))) mv_X11_next km_X11_268 rfl rfl ⟨Nat.le_of_ble_eq_true rfl, Nat.le_of_ble_eq_true rfl⟩ (rc_13 hK hT ha) hK (fun _ => XP.blind) (fun U hU hW => XP.at hK hz hS hT hU hW) rfl hl.1 (Nat.le_of_ble_eq_true rfl) dX11_number_10 ⟨Nat.le_of_ble_eq_true rfl, Nat.le_of_ble_eq_true rfl⟩) hS ?_
    rintro _ u2 H locs ⟨x4, rfl, t3⟩ hT hS
    have hT : TW E K F (tl, [z0, z1, z2, z3, z4, z5, z6, z7, z8, u2, z10, z11, z12, z13, z14, z15, z16, z17, z18, z19, z20], [ar0, ar1, ar2, ar3, ar4, ar5, ar6, ar7, ar8, ar9, ar10]) [] H := hT
    have t3 : z9.toInt ≤ u2.toInt ∧ u2.toInt ≤ 80 ∧ (x4.toInt ≠ 0 → u2.toInt < z8.toInt) := t3
    refine lv_bipush (v := 45) hx hb dX11_number_13 (by decide) ?_
    have J23 : ∀ (x6 : Int32) (H : Heap) (locs : List Loc) (ls : Array Slot), ((x6.toInt = 0 ∨ x6.toInt = 1) ∧ (x6.toInt = 1 → u2.toInt < z8.toInt)) → TW E K F (tl, [z0, z1, z2, z3, z4, z5, z6, z7, z8, u2, z10, z11, z12, z13, z14, z15, z16, z17, z18, z19, z20], [ar0, ar1, ar2, ar3, ar4, ar5, ar6, ar7, ar8, ar9, ar10]) [] H → va_S (xA E) s.heap H locs → lv_has ls 8 [(0, .ref a), (1, .int p0), (2, .int p1)] → W p l e rm_X11_number s m args below meth c H locs 0 0 Q (F0 m 23 ls [.int x6]) := by
      intro x6 H locs ls hf7 hT hS hl
      refine lv_istore_n (lv' := [(3, .int x6), (0, .ref a), (1, .int p0), (2, .int p1)]) hx hb dX11_number_23 rfl hl (by decide) rfl (fun ls hl => ?_)
      refine lv_aload_n hx hb dX11_number_24 rfl (lv_at hl 1 rfl) ?_
      refine gX11_37 S hK hT ha kf_X11_256 dX11_number_25 (v := u2) rfl ?_
      refine lv_istore (lv' := [(4, .int u2), (3, .int x6), (0, .ref a), (1, .int p0), (2, .int p1)]) hx hb dX11_number_28 hl (by decide) rfl (fun ls hl => ?_)
      refine lv_iload_n hx hb dX11_number_30 rfl (lv_at hl 1 rfl) ?_
      have J47 : ∀ (x8 : Int32) (H : Heap) (locs : List Loc) (ls : Array Slot), 0 ≤ x8.toInt ∧ x8.toInt ≤ 80 → TW E K F (tl, [z0, z1, z2, z3, z4, z5, z6, z7, z8, u2, z10, z11, z12, z13, z14, z15, z16, z17, z18, z19, z20], [ar0, ar1, ar2, ar3, ar4, ar5, ar6, ar7, ar8, ar9, ar10]) [] H → va_S (xA E) s.heap H locs → lv_has ls 8 [(0, .ref a), (1, .int p0), (2, .int p1), (3, .int x6), (4, .int u2)] → W p l e rm_X11_number s m args below meth c H locs 0 0 Q (F0 m 47 ls [.int x8]) := by
        intro x8 H locs ls hf9 hT hS hl
        refine lv_istore (lv' := [(5, .int x8), (0, .ref a), (1, .int p0), (2, .int p1), (3, .int x6), (4, .int u2)]) hx hb dX11_number_47 hl (by decide) rfl (fun ls hl => ?_)
        refine lv_iconst (v := 0) hx hb dX11_number_49 (by decide) ?_
        refine lv_istore (lv' := [(6, .int 0), (5, .int x8), (0, .ref a), (1, .int p0), (2, .int p1), (3, .int x6), (4, .int u2)]) hx hb dX11_number_50 hl (by decide) rfl (fun ls hl => ?_)
        refine lv_iconst (v := 0) hx hb dX11_number_52 (by decide) ?_
        refine lv_istore (lv' := [(7, .int 0), (6, .int 0), (5, .int x8), (0, .ref a), (1, .int p0), (2, .int p1), (3, .int x6), (4, .int u2)]) hx hb dX11_number_53 hl (by decide) rfl (fun ls hl => ?_)
        have L55 : ∀ (N13 : Nat) (x10 : Int32) (x11 : Int32) (x12 : Int32) (H : Heap) (locs : List Loc) (ls : Array Slot), 0 ≤ x10.toInt ∧ x10.toInt ≤ 80 → 2147483648 - x10.toInt < ((N13 : Nat) : Int) → TW E K F (tl, [z0, z1, z2, z3, z4, z5, z6, z7, z8, u2, z10, z11, z12, z13, z14, z15, z16, z17, z18, z19, z20], [ar0, ar1, ar2, ar3, ar4, ar5, ar6, ar7, ar8, ar9, ar10]) [] H → va_S (xA E) s.heap H locs → lv_has ls 8 [(0, .ref a), (1, .int p0), (2, .int p1), (3, .int x6), (4, .int u2), (5, .int x10), (6, .int x11), (7, .int x12)] → W p l e rm_X11_number s m args below meth c H locs 0 0 Q (F0 m 55 ls []) := by
          intro N13
          induction N13 with
          | zero =>
            intro x10 x11 x12 H locs ls hf14 hm15
            exact absurd hm15 (z_X11_number_3 x10.toInt hf14 (xr x10))
          | succ N13 ih16 =>
            intro x10 x11 x12 H locs ls hf14 hm15 hT hS hl
            refine lv_aload_n hx hb dX11_number_55 rfl (lv_at hl 0 rfl) ?_
            refine lv_iload hx hb dX11_number_56 (lv_at hl 5 rfl) ?_
            refine x_clp (x_runV (b := a) (As := [.int x10]) (rest := []) S (c_X11_signAt l E K F tl z0 z1 z2 z3 z4 z5 z6 z7 z8 u2 z10 z11 z12 z13 z14 z15 z16 z17 z18 z19 z20 ar0 ar1 ar2 ar3 ar4 ar5 ar6 ar7 ar8 ar9 ar10 H a x10 ha (z_X11_number_4 x10.toInt N13 hf14 hm15 (xr x10)) (z_X11_number_5 u2.toInt x4.toInt x6.toInt z8.toInt z9.toInt e0 e1 (t3).1 (t3).2.1 (t3).2.2 (hf7).1 (hf7).2 (xr u2) (xr x4) (xr x6) (xr z8) (xr z9))) mv_X11_signAt km_X11_259 rfl rfl ⟨Nat.le_of_ble_eq_true rfl, Nat.le_of_ble_eq_true rfl⟩ (rc_13 hK hT ha) hK (fun _ => XPh.blind) (fun U hU hW => XPh.at hK hz hS hT hU hW) rfl hl.1 (Nat.le_of_ble_eq_true rfl) dX11_number_58 ⟨Nat.le_of_ble_eq_true rfl, Nat.le_of_ble_eq_true rfl⟩) hS ?_
            rintro _ _ locs ⟨x18, rfl, t17⟩ hS
            have t17 : x18.toInt ≠ 0 → x10.toInt < z8.toInt := t17
            refine x_clp (x_runS (As := [.int x18]) (rest := []) S (c_X11_isDigit l E K F tl z0 z1 z2 z3 z4 z5 z6 z7 z8 u2 z10 z11 z12 z13 z14 z15 z16 z17 z18 z19 z20 ar0 ar1 ar2 ar3 ar4 ar5 ar6 ar7 ar8 ar9 ar10 H x18) ms_X11_isDigit km_X11_275 rfl rfl ⟨Nat.le_of_ble_eq_true rfl, Nat.le_of_ble_eq_true rfl⟩ hK (fun _ => XPh.blind) (fun U hU hW => XPh.at hK hz hS hT hU hW) rfl hl.1 (Nat.le_of_ble_eq_true rfl) dX11_number_61 ⟨Nat.le_of_ble_eq_true rfl, Nat.le_of_ble_eq_true rfl⟩) hS ?_
            rintro _ _ locs ⟨x21, rfl, b22, t20⟩ hS
            have t20 : (x21.toInt = 1 ∧ 48 ≤ x18.toInt ∧ x18.toInt ≤ 57) ∨ (x21.toInt = 0 ∧ (x18.toInt < 48 ∨ 57 < x18.toInt)) := t20
            refine xi_zeq (tgt := 106) hx hb (rfl : Int32.toInt x21 = x21.toInt) dX11_number_64 (by decide) (fun c23 => ?_) (fun c23 => ?_)
            · refine lv_iload_n hx hb dX11_number_106 rfl (lv_at hl 3 rfl) ?_
              have J118 : ∀ (x24 : Int32) (H : Heap) (locs : List Loc) (ls : Array Slot), TW E K F (tl, [z0, z1, z2, z3, z4, z5, z6, z7, z8, u2, z10, z11, z12, z13, z14, z15, z16, z17, z18, z19, z20], [ar0, ar1, ar2, ar3, ar4, ar5, ar6, ar7, ar8, ar9, ar10]) [] H → va_S (xA E) s.heap H locs → lv_has ls 8 [(0, .ref a), (1, .int p0), (2, .int p1), (4, .int u2), (5, .int x10), (7, .int x12)] → W p l e rm_X11_number s m args below meth c H locs 0 0 Q (F0 m 118 ls [.int x24]) := by
                intro x24 H locs ls hT hS hl
                refine lv_istore (lv' := [(6, .int x24), (0, .ref a), (1, .int p0), (2, .int p1), (4, .int u2), (5, .int x10), (7, .int x12)]) hx hb dX11_number_118 hl (by decide) rfl (fun ls hl => ?_)
                refine lv_iload hx hb dX11_number_120 (lv_at hl 6 rfl) ?_
                have J144 : ∀ (H : Heap) (locs : List Loc) (ls : Array Slot), TW E K F (tl, [z0, z1, z2, z3, z4, z5, z6, z7, z8, u2, z10, z11, z12, z13, z14, z15, z16, z17, z18, z19, z20], [ar0, ar1, ar2, ar3, ar4, ar5, ar6, ar7, ar8, ar9, ar10]) [] H → va_S (xA E) s.heap H locs → lv_has ls 8 [(0, .ref a), (4, .int u2)] → W p l e rm_X11_number s m args below meth c H locs 0 0 Q (F0 m 144 ls []) := by
                  intro H locs ls hT hS hl
                  refine lv_aload_n hx hb dX11_number_144 rfl (lv_at hl 0 rfl) ?_
                  refine lv_iload hx hb dX11_number_145 (lv_at hl 1 rfl) ?_
                  refine x_cv0 (x_runV (b := a) (As := [.int u2]) (rest := []) S (c_X11_wrong l E K F tl z0 z1 z2 z3 z4 z5 z6 z7 z8 u2 z10 z11 z12 z13 z14 z15 z16 z17 z18 z19 z20 ar0 ar1 ar2 ar3 ar4 ar5 ar6 ar7 ar8 ar9 ar10 a u2 ha) mv_X11_wrong km_X11_279 rfl rfl ⟨Nat.le_of_ble_eq_true rfl, Nat.le_of_ble_eq_true rfl⟩ (rc_13 hK hT ha) hK (fun _ => XP.blind) (fun U hU hW => XP.at hK hz hS hT hU hW) rfl hl.1 (Nat.le_of_ble_eq_true rfl) dX11_number_147 ⟨Nat.le_of_ble_eq_true rfl, Nat.le_of_ble_eq_true rfl⟩) hS ?_
                  rintro ⟨u25, u26⟩ H locs t27 hT hS
                  have hT : TW E K F (tl, [z0, z1, z2, z3, z4, z5, z6, z7, z8, u2, u25, u26, z12, z13, z14, z15, z16, z17, z18, z19, z20], [ar0, ar1, ar2, ar3, ar4, ar5, ar6, ar7, ar8, ar9, ar10]) [] H := hT
                  have t27 : u26.toInt = 0 := t27
                  refine lv_iconst (v := 0) hx hb dX11_number_150 (by decide) ?_
                  exact x_ri hx hb hr hlk hQ (Nat.le_of_ble_eq_true rfl) (Nat.le_of_ble_eq_true rfl) hS dX11_number_151 (u2, u25, u26) ⟨_, rfl, (z_X11_number_6 p0.toInt p1.toInt u2.toInt u26.toInt x10.toInt x18.toInt x21.toInt x4.toInt x6.toInt z8.toInt z9.toInt N13 e0 e1 (t3).1 (t3).2.1 (t3).2.2 (hf7).1 (hf7).2 hf14 hm15 t17 t20 (xbz b22) c23 t27 (xr p0) (xr p1) (xr u2) (xr u26) (xr x10) (xr x18) (xr x21) (xr x4) (xr x6) (xr z8) (xr z9))⟩ hT.nil
                refine xi_zeq (tgt := 144) hx hb (rfl : Int32.toInt x12 = x12.toInt) dX11_number_122 (by decide) (fun c30 => ?_) (fun c30 => ?_)
                · exact J144 _ _ _ hT.nil hS (lv_sub hl [1, 4] rfl)
                · refine lv_iload hx hb dX11_number_125 (lv_at hl 6 rfl) ?_
                  refine lv_iconst (v := 4) hx hb dX11_number_127 (by decide) ?_
                  refine xi_cgt (tgt := 144) hx hb (rfl : Int32.toInt x12 = x12.toInt) ((by decide) : Int32.toInt 4 = (4 : Int)) dX11_number_128 (by decide) (fun c31 => ?_) (fun c31 => ?_)
                  · exact J144 _ _ _ hT.nil hS (lv_sub hl [1, 4] rfl)
                  · refine lv_iload hx hb dX11_number_131 (lv_at hl 0 rfl) ?_
                    refine lv_i2l (v := x24.toInt64) hx hb dX11_number_133 rfl ?_
                    refine lv_iload_n hx hb dX11_number_134 rfl (lv_at hl 2 rfl) ?_
                    refine lv_i2l (v := p0.toInt64) hx hb dX11_number_135 rfl ?_
                    refine lv_iload_n hx hb dX11_number_136 rfl (lv_at hl 3 rfl) ?_
                    refine lv_i2l (v := p1.toInt64) hx hb dX11_number_137 rfl ?_
                    refine x_clp (x_runS (As := [.long x24.toInt64, .long p0.toInt64, .long p1.toInt64]) (rest := []) S (c_X11_in l E K F tl z0 z1 z2 z3 z4 z5 z6 z7 z8 u2 z10 z11 z12 z13 z14 z15 z16 z17 z18 z19 z20 ar0 ar1 ar2 ar3 ar4 ar5 ar6 ar7 ar8 ar9 ar10 H x24.toInt64 p0.toInt64 p1.toInt64 x24.toInt p0.toInt p1.toInt (xl_i2l (rfl : Int32.toInt x24 = x24.toInt)) (xl_i2l (rfl : Int32.toInt p0 = p0.toInt)) (xl_i2l (rfl : Int32.toInt p1 = p1.toInt))) ms_X11_in km_X11_139 rfl rfl ⟨Nat.le_of_ble_eq_true rfl, Nat.le_of_ble_eq_true rfl⟩ hK (fun _ => XPh.blind) (fun U hU hW => XPh.at hK hz hS hT hU hW) rfl hl.1 (Nat.le_of_ble_eq_true rfl) dX11_number_138 ⟨Nat.le_of_ble_eq_true rfl, Nat.le_of_ble_eq_true rfl⟩) hS ?_
                    rintro _ _ locs ⟨x32, rfl, b33, t34⟩ hS
                    have t34 : (x32.toInt = 1 ∧ p0.toInt ≤ x24.toInt ∧ x24.toInt ≤ p1.toInt) ∨ (x32.toInt = 0 ∧ (x24.toInt < p0.toInt ∨ p1.toInt < x24.toInt)) := t34
                    refine xi_zne (tgt := 152) hx hb (rfl : Int32.toInt x32 = x32.toInt) dX11_number_141 (by decide) (fun c35 => ?_) (fun c35 => ?_)
                    · refine lv_aload_n hx hb dX11_number_152 rfl (lv_at hl 1 rfl) ?_
                      refine lv_iload hx hb dX11_number_153 (lv_at hl 5 rfl) ?_
                      refine pX11_37 (kq := []) (v := x10) S hK hT hS ha kf_X11_256 (Nat.le_of_ble_eq_true rfl) dX11_number_155 (fun _ h => by cases h) (fun H locs hT hS => ?_)
                      have hT : TW E K F (tl, [z0, z1, z2, z3, z4, z5, z6, z7, z8, x10, z10, z11, z12, z13, z14, z15, z16, z17, z18, z19, z20], [ar0, ar1, ar2, ar3, ar4, ar5, ar6, ar7, ar8, ar9, ar10]) [] H := hT
                      refine lv_iload hx hb dX11_number_158 (lv_at hl 0 rfl) ?_
                      exact x_ri hx hb hr hlk hQ (Nat.le_of_ble_eq_true rfl) (Nat.le_of_ble_eq_true rfl) hS dX11_number_160 (x10, z10, z11) ⟨_, rfl, (z_X11_number_7 p0.toInt p1.toInt u2.toInt x10.toInt x18.toInt x21.toInt x24.toInt x32.toInt x4.toInt x6.toInt z11.toInt z8.toInt z9.toInt N13 e0 e1 e2 c1 (t3).1 (t3).2.1 (t3).2.2 (hf7).1 (hf7).2 hf14 hm15 t17 t20 (xbz b22) c23 t34 c35 (xr p0) (xr p1) (xr u2) (xr x10) (xr x18) (xr x21) (xr x24) (xr x32) (xr x4) (xr x6) (xr z11) (xr z8) (xr z9))⟩ hT.nil
                    · exact J144 _ _ _ hT.nil hS (lv_sub hl [1, 4] rfl)
              refine xi_zeq (tgt := 116) hx hb (rfl : Int32.toInt x6 = x6.toInt) dX11_number_107 (by decide) (fun c36 => ?_) (fun c36 => ?_)
              · refine lv_iload hx hb dX11_number_116 (lv_at hl 6 rfl) ?_
                exact J118 x11 _ _ _ hT.nil hS (lv_sub hl [0, 1, 2, 4, 5, 7] rfl)
              · refine lv_iload hx hb dX11_number_110 (lv_at hl 6 rfl) ?_
                refine xi_ineg hx hb (rfl : Int32.toInt x11 = x11.toInt) dX11_number_112 (fun x37 t38 => ?_)
                refine lv_goto (tgt := 118) hx hb dX11_number_113 (by decide) ?_
                exact J118 x37 _ _ _ hT.nil hS (lv_sub hl [0, 1, 2, 4, 5, 7] rfl)
            · refine lv_iload hx hb dX11_number_67 (lv_at hl 6 rfl) ?_
              refine lv_ldcw (v := 99999) hx hb S.2.2.2.1 (S.2.2.2.2 _ (List.mem_cons_of_mem _ kc_X11_278)) dX11_number_69 ?_
              have J95 : ∀ (x39 : Int32) (H : Heap) (locs : List Loc) (ls : Array Slot), TW E K F (tl, [z0, z1, z2, z3, z4, z5, z6, z7, z8, u2, z10, z11, z12, z13, z14, z15, z16, z17, z18, z19, z20], [ar0, ar1, ar2, ar3, ar4, ar5, ar6, ar7, ar8, ar9, ar10]) [] H → va_S (xA E) s.heap H locs → lv_has ls 8 [(0, .ref a), (1, .int p0), (2, .int p1), (3, .int x6), (4, .int u2), (5, .int x10), (7, .int x12)] → W p l e rm_X11_number s m args below meth c H locs 0 0 Q (F0 m 95 ls [.int x39]) := by
                intro x39 H locs ls hT hS hl
                refine lv_istore (lv' := [(6, .int x39), (0, .ref a), (1, .int p0), (2, .int p1), (3, .int x6), (4, .int u2), (5, .int x10), (7, .int x12)]) hx hb dX11_number_95 hl (by decide) rfl (fun ls hl => ?_)
                refine xi_iinc (n := 1) (lv' := fun z9 => [(7, .int z9), (6, .int x39), (0, .ref a), (1, .int p0), (2, .int p1), (3, .int x6), (4, .int u2), (5, .int x10)]) (k := 7) hx hb (rfl : Int32.toInt x12 = x12.toInt) (by decide) dX11_number_97 hl rfl (by decide) (fun _ => rfl) (fun x40 ls t41 hl => ?_)
                have hl : lv_has ls 8 [(7, .int x40), (6, .int x39), (0, .ref a), (1, .int p0), (2, .int p1), (3, .int x6), (4, .int u2), (5, .int x10)] := hl
                refine xi_iinc (n := 1) (lv' := fun z9 => [(5, .int z9), (7, .int x40), (6, .int x39), (0, .ref a), (1, .int p0), (2, .int p1), (3, .int x6), (4, .int u2)]) (k := 7) hx hb (rfl : Int32.toInt x10 = x10.toInt) (by decide) dX11_number_100 hl rfl (by decide) (fun _ => rfl) (fun x42 ls t43 hl => ?_)
                have hl : lv_has ls 8 [(5, .int x42), (7, .int x40), (6, .int x39), (0, .ref a), (1, .int p0), (2, .int p1), (3, .int x6), (4, .int u2)] := hl
                refine lv_goto (tgt := 55) hx hb dX11_number_103 (by decide) ?_
                exact ih16 x42 x39 x40 _ _ _ (z_X11_number_8 u2.toInt x10.toInt x18.toInt x21.toInt x4.toInt x42.toInt x6.toInt z8.toInt z9.toInt N13 e0 e1 (t3).1 (t3).2.1 (t3).2.2 (hf7).1 (hf7).2 hf14 hm15 t17 t20 (xbz b22) c23 t43 (xr u2) (xr x10) (xr x18) (xr x21) (xr x4) (xr x42) (xr x6) (xr z8) (xr z9)) (z_X11_number_9 u2.toInt x10.toInt x18.toInt x21.toInt x4.toInt x42.toInt x6.toInt z8.toInt z9.toInt N13 e0 e1 (t3).1 (t3).2.1 (t3).2.2 (hf7).1 (hf7).2 hf14 hm15 t17 t20 (xbz b22) c23 t43 (xr u2) (xr x10) (xr x18) (xr x21) (xr x4) (xr x42) (xr x6) (xr z8) (xr z9)) hT.nil hS (lv_sub hl [3, 4, 5, 6, 7, 0, 2, 1] rfl)
              refine xi_cle (tgt := 80) hx hb (rfl : Int32.toInt x11 = x11.toInt) ((by decide) : Int32.toInt 99999 = (99999 : Int)) dX11_number_72 (by decide) (fun c44 => ?_) (fun c44 => ?_)
              · refine lv_bipush (v := 10) hx hb dX11_number_80 (by decide) ?_
                refine lv_iload hx hb dX11_number_82 (lv_at hl 6 rfl) ?_
                refine xi_imul hx hb ((by decide) : Int32.toInt 10 = (10 : Int)) (rfl : Int32.toInt x11 = x11.toInt) dX11_number_84 (fun x45 t46 => ?_)
                refine lv_aload_n hx hb dX11_number_85 rfl (lv_at hl 0 rfl) ?_
                refine lv_iload hx hb dX11_number_86 (lv_at hl 5 rfl) ?_
                refine x_clp (x_runV (b := a) (As := [.int x10]) (rest := [.int x45]) S (c_X11_signAt l E K F tl z0 z1 z2 z3 z4 z5 z6 z7 z8 u2 z10 z11 z12 z13 z14 z15 z16 z17 z18 z19 z20 ar0 ar1 ar2 ar3 ar4 ar5 ar6 ar7 ar8 ar9 ar10 H a x10 ha (z_X11_number_10 u2.toInt x10.toInt x18.toInt x21.toInt x4.toInt x6.toInt z8.toInt z9.toInt N13 e0 e1 (t3).1 (t3).2.1 (t3).2.2 (hf7).1 (hf7).2 hf14 hm15 t17 t20 (xbz b22) c23 (xr u2) (xr x10) (xr x18) (xr x21) (xr x4) (xr x6) (xr z8) (xr z9)) (z_X11_number_11 u2.toInt x10.toInt x18.toInt x21.toInt x4.toInt x6.toInt z8.toInt z9.toInt N13 e0 e1 (t3).1 (t3).2.1 (t3).2.2 (hf7).1 (hf7).2 hf14 hm15 t17 t20 (xbz b22) c23 (xr u2) (xr x10) (xr x18) (xr x21) (xr x4) (xr x6) (xr z8) (xr z9))) mv_X11_signAt km_X11_259 rfl rfl ⟨Nat.le_of_ble_eq_true rfl, Nat.le_of_ble_eq_true rfl⟩ (rc_13 hK hT ha) hK (fun _ => XPh.blind) (fun U hU hW => XPh.at hK hz hS hT hU hW) rfl hl.1 (Nat.le_of_ble_eq_true rfl) dX11_number_88 ⟨Nat.le_of_ble_eq_true rfl, Nat.le_of_ble_eq_true rfl⟩) hS ?_
                rintro _ _ locs ⟨x48, rfl, t47⟩ hS
                have t47 : x48.toInt ≠ 0 → x10.toInt < z8.toInt := t47
                refine xi_iadd hx hb (rfl : Int32.toInt x45 = x45.toInt) (rfl : Int32.toInt x48 = x48.toInt) dX11_number_91 (fun x50 t51 => ?_)
                refine lv_bipush (v := 48) hx hb dX11_number_92 (by decide) ?_
                refine xi_isub hx hb (rfl : Int32.toInt x50 = x50.toInt) ((by decide) : Int32.toInt 48 = (48 : Int)) dX11_number_94 (fun x52 t53 => ?_)
                exact J95 x52 _ _ _ hT.nil hS (lv_sub hl [0, 1, 2, 3, 4, 5, 7] rfl)
              · refine lv_iload hx hb dX11_number_75 (lv_at hl 6 rfl) ?_
                refine lv_goto (tgt := 95) hx hb dX11_number_77 (by decide) ?_
                exact J95 x11 _ _ _ hT.nil hS (lv_sub hl [0, 1, 2, 3, 4, 5, 7] rfl)
        exact L55 4294967297 x8 0 0 _ _ _ (z_X11_number_12 x8.toInt hf9 (xr x8)) (z_X11_number_13 x8.toInt hf9 (xr x8)) hT.nil hS (lv_sub hl [3, 4, 5, 6, 7, 2, 1, 0] rfl)
      refine xi_zeq (tgt := 43) hx hb (rfl : Int32.toInt x6 = x6.toInt) dX11_number_31 (by decide) (fun c54 => ?_) (fun c54 => ?_)
      · refine lv_aload_n hx hb dX11_number_43 rfl (lv_at hl 2 rfl) ?_
        refine gX11_37 S hK hT ha kf_X11_256 dX11_number_44 (v := u2) rfl ?_
        exact J47 u2 _ _ _ (z_X11_number_14 u2.toInt x4.toInt x6.toInt z8.toInt z9.toInt e0 e1 (t3).1 (t3).2.1 (t3).2.2 (hf7).1 (hf7).2 c54 (xr u2) (xr x4) (xr x6) (xr z8) (xr z9)) hT.nil hS (lv_sub hl [2, 3, 4, 1, 0] rfl)
      · refine lv_aload_n hx hb dX11_number_34 rfl (lv_at hl 2 rfl) ?_
        refine gX11_37 S hK hT ha kf_X11_256 dX11_number_35 (v := u2) rfl ?_
        refine lv_iconst (v := 1) hx hb dX11_number_38 (by decide) ?_
        refine xi_iadd hx hb (rfl : Int32.toInt u2 = u2.toInt) ((by decide) : Int32.toInt 1 = (1 : Int)) dX11_number_39 (fun x55 t56 => ?_)
        refine lv_goto (tgt := 47) hx hb dX11_number_40 (by decide) ?_
        exact J47 x55 _ _ _ (z_X11_number_15 u2.toInt x4.toInt x55.toInt x6.toInt z8.toInt z9.toInt e0 e1 (t3).1 (t3).2.1 (t3).2.2 (hf7).1 (hf7).2 c54 t56 (xr u2) (xr x4) (xr x55) (xr x6) (xr z8) (xr z9)) hT.nil hS (lv_sub hl [2, 3, 4, 1, 0] rfl)
    refine xi_cne (tgt := 22) hx hb (rfl : Int32.toInt x4 = x4.toInt) ((by decide) : Int32.toInt 45 = (45 : Int)) dX11_number_15 (by decide) (fun c57 => ?_) (fun c57 => ?_)
    · refine lv_iconst (v := 0) hx hb dX11_number_22 (by decide) ?_
      exact J23 0 _ _ _ (z_X11_number_16 u2.toInt x4.toInt z8.toInt z9.toInt e0 e1 (t3).1 (t3).2.1 (t3).2.2 c57 (xr u2) (xr x4) (xr z8) (xr z9)) hT.nil hS (lv_sub hl [0, 1, 2] rfl)
    · refine lv_iconst (v := 1) hx hb dX11_number_18 (by decide) ?_
      refine lv_goto (tgt := 23) hx hb dX11_number_19 (by decide) ?_
      exact J23 1 _ _ _ (z_X11_number_17 u2.toInt x4.toInt z8.toInt z9.toInt e0 e1 (t3).1 (t3).2.1 (t3).2.2 c57 (xr u2) (xr x4) (xr z8) (xr z9)) hT.nil hS (lv_sub hl [0, 1, 2] rfl)
  · refine lv_iconst (v := 0) hx hb dX11_number_7 (by decide) ?_
    exact x_ri hx hb hr hlk hQ (Nat.le_of_ble_eq_true rfl) (Nat.le_of_ble_eq_true rfl) hS dX11_number_8 (z9, z10, z11) ⟨_, rfl, (z_X11_number_18 p0.toInt p1.toInt z11.toInt z9.toInt e1 e2 c1 (xr p0) (xr p1) (xr z11) (xr z9))⟩ hT.nil

theorem z_X11_kindHere_1 (a0 : Int) (h0 : (0 : Int) ≤ a0) (r0 : -2147483648 ≤ a0 ∧ a0 < 2147483648) : ¬ (2147483648 - a0 < ((0 : Nat) : Int)) := by omega
theorem z_X11_kindHere_2 (a0 : Int) (h0 : 0 ≤ a0 ∧ a0 ≤ 80) (r0 : -2147483648 ≤ a0 ∧ a0 < 2147483648) : 0 ≤ a0 ∧ a0 ≤ 80 := by omega
theorem z_X11_kindHere_3 (a0 : Int) (h0 : 0 ≤ a0 ∧ a0 ≤ 80) (r0 : -2147483648 ≤ a0 ∧ a0 < 2147483648) : 0 ≤ a0 ∧ a0 ≤ 80 := by omega
theorem z_X11_kindHere_4 (a0 : Int) (a1 : Int) (a2 : Int) (a3 : Int) (a4 : Int) (h0 : 0 ≤ a4 ∧ a4 ≤ 80) (h1 : 0 ≤ a3 ∧ a3 ≤ 80) (h2 : a3 ≤ a1) (h3 : a1 ≤ 80) (h4 : a2 ≠ 0 → a1 < a4) (h5 : a0 = 0) (r0 : -2147483648 ≤ a0 ∧ a0 < 2147483648) (r1 : -2147483648 ≤ a1 ∧ a1 < 2147483648) (r2 : -2147483648 ≤ a2 ∧ a2 < 2147483648) (r3 : -2147483648 ≤ a3 ∧ a3 < 2147483648) (r4 : -2147483648 ≤ a4 ∧ a4 < 2147483648) : 0 ≤ a1 ∧ a1 ≤ 80 ∧ 0 ≤ (0 : Int) ∧ (0 : Int) ≤ 5 ∧ (a0 = 0 ∨ a0 = 1) := by omega
theorem z_X11_kindHere_5 (a0 : Int) (h0 : 0 ≤ a0 ∧ a0 ≤ 80) (r0 : -2147483648 ≤ a0 ∧ a0 < 2147483648) : 0 ≤ a0 ∧ a0 ≤ 80 := by omega
theorem z_X11_kindHere_6 (a0 : Int) (h0 : 0 ≤ a0 ∧ a0 ≤ 80) (r0 : -2147483648 ≤ a0 ∧ a0 < 2147483648) : 0 ≤ a0 ∧ a0 ≤ 80 := by omega
theorem z_X11_kindHere_7 (a0 : Int) (h0 : 0 ≤ a0 ∧ a0 ≤ 80) (r0 : -2147483648 ≤ a0 ∧ a0 < 2147483648) : 0 ≤ a0 ∧ a0 ≤ 80 := by omega
theorem z_X11_kindHere_8 (a0 : Int) (a1 : Int) (a2 : Nat) (h0 : (0 : Int) ≤ a0) (h1 : 2147483648 - a0 < ((a2 + 1 : Nat) : Int)) (h2 : ¬ ((5 : Int) < a0)) (h3 : a1 = a0 + 1 ∨ a0 + 1 < -2147483648 ∨ 2147483648 ≤ a0 + 1) (r0 : -2147483648 ≤ a0 ∧ a0 < 2147483648) (r1 : -2147483648 ≤ a1 ∧ a1 < 2147483648) : (0 : Int) ≤ a1 := by omega
theorem z_X11_kindHere_9 (a0 : Int) (a1 : Int) (a2 : Nat) (h0 : (0 : Int) ≤ a0) (h1 : 2147483648 - a0 < ((a2 + 1 : Nat) : Int)) (h2 : ¬ ((5 : Int) < a0)) (h3 : a1 = a0 + 1 ∨ a0 + 1 < -2147483648 ∨ 2147483648 ≤ a0 + 1) (r0 : -2147483648 ≤ a0 ∧ a0 < 2147483648) (r1 : -2147483648 ≤ a1 ∧ a1 < 2147483648) : 2147483648 - a1 < ((a2 : Nat) : Int) := by omega
theorem z_X11_kindHere_10 (a0 : Int) (a1 : Int) (a2 : Int) (a3 : Nat) (h0 : a2 = 0 ∨ a2 = 1) (h1 : (0 : Int) ≤ a1) (h2 : 2147483648 - a1 < ((a3 + 1 : Nat) : Int)) (h3 : ¬ ((5 : Int) < a1)) (h4 : 0 ≤ a0 ∧ a0 ≤ 80) (r0 : -2147483648 ≤ a0 ∧ a0 < 2147483648) (r1 : -2147483648 ≤ a1 ∧ a1 < 2147483648) (r2 : -2147483648 ≤ a2 ∧ a2 < 2147483648) : 0 ≤ a0 ∧ a0 ≤ 80 ∧ 0 ≤ a1 ∧ a1 ≤ 5 ∧ (a2 = 0 ∨ a2 = 1) := by omega
theorem z_X11_kindHere_11 (a0 : Int) (h0 : 0 ≤ a0 ∧ a0 ≤ 80) (r0 : -2147483648 ≤ a0 ∧ a0 < 2147483648) : 0 ≤ a0 ∧ a0 ≤ 80 := by omega
abbrev rm_X11_kindHere : Room := { frames := 3, cells := 0, slots := 0, locals := 69 }
set_option maxHeartbeats 4000000 in
set_option maxRecDepth 100000 in
theorem c_X11_kindHere (l : Launch) (E : XE) (K : Nat → Nat) (F : Nat → Nat → Nat) (tl z0 z1 z2 z3 z4 z5 z6 z7 z8 z9 z10 z11 z12 z13 z14 z15 z16 z17 z18 z19 z20 : Int32) (ar0 ar1 ar2 ar3 ar4 ar5 ar6 ar7 ar8 ar9 ar10 : Nat → Int32) (a : Nat) (ha : K a = 13) (e0 : 0 ≤ z8.toInt ∧ z8.toInt ≤ 80) (e1 : 0 ≤ z9.toInt ∧ z9.toInt ≤ 80) (e2 : z11.toInt = 0 ∨ z11.toInt = 1) : Met l yX11_kindHere (xw yX11_kindHere cX11_kindHere 2 (some .int)) rm_X11_kindHere (va_Pc [.ref a] (XP E K F (tl, [z0, z1, z2, z3, z4, z5, z6, z7, z8, z9, z10, z11, z12, z13, z14, z15, z16, z17, z18, z19, z20], [ar0, ar1, ar2, ar3, ar4, ar5, ar6, ar7, ar8, ar9, ar10]))) (XQ E (fun v (u : Int32 × Int32 × Int32) => ∃ r : Int32, v = .int r ∧ (0 ≤ u.1.toInt ∧ u.1.toInt ≤ 80 ∧ 0 ≤ r.toInt ∧ r.toInt ≤ 5 ∧ (u.2.2.toInt = 0 ∨ u.2.2.toInt = 1))) (fun u H => TW E K F (tl, [z0, z1, z2, z3, z4, z5, z6, z7, z8, u.1, u.2.1, u.2.2, z12, z13, z14, z15, z16, z17, z18, z19, z20], [ar0, ar1, ar2, ar3, ar4, ar5, ar6, ar7, ar8, ar9, ar10]) [] H)) 0 0 (xA E) := by
  refine x_enter (by decide) (Nat.le_of_ble_eq_true rfl) ?_
  intro p e s m args below meth c Q S hr hlk hnm hQ hP ls hl
  obtain ⟨hz, hK, hT⟩ := hP
  obtain ⟨hx, hb, -, -, -⟩ := id S
  obtain ⟨H, hT, hS, hgo⟩ : ∃ H : Heap, TW E K F (tl, [z0, z1, z2, z3, z4, z5, z6, z7, z8, z9, z10, z11, z12, z13, z14, z15, z16, z17, z18, z19, z20], [ar0, ar1, ar2, ar3, ar4, ar5, ar6, ar7, ar8, ar9, ar10]) [] H ∧ va_S (xA E) s.heap H [] ∧ H = s.heap := ⟨_, hT, va_S.rf, rfl⟩
  rw [← hgo]
  have hl : lv_has ls 2 [(0, .ref a)] := hl
  refine lv_iconst (v := 0) hx hb dX11_kindHere_0 (by decide) ?_
  refine lv_istore_n (lv' := [(1, .int 0), (0, .ref a)]) hx hb dX11_kindHere_1 rfl hl (by decide) rfl (fun ls hl => ?_)
  have L2 : ∀ (N3 : Nat) (x1 : Int32) (x2 : Int32) (H : Heap) (locs : List Loc) (ls : Array Slot), 0 ≤ x2.toInt ∧ x2.toInt ≤ 80 → (0 : Int) ≤ x1.toInt → 2147483648 - x1.toInt < ((N3 : Nat) : Int) → TW E K F (tl, [z0, z1, z2, z3, z4, z5, z6, z7, z8, x2, z10, z11, z12, z13, z14, z15, z16, z17, z18, z19, z20], [ar0, ar1, ar2, ar3, ar4, ar5, ar6, ar7, ar8, ar9, ar10]) [] H → va_S (xA E) s.heap H locs → lv_has ls 2 [(0, .ref a), (1, .int x1)] → W p l e rm_X11_kindHere s m args below meth c H locs 0 0 Q (F0 m 2 ls []) := by
    intro N3
    induction N3 with
    | zero =>
      intro x1 x2 H locs ls hf4 hf5 hm6
      exact absurd hm6 (z_X11_kindHere_1 x1.toInt hf5 (xr x1))
    | succ N3 ih7 =>
      intro x1 x2 H locs ls hf4 hf5 hm6 hT hS hl
      refine lv_iload_n hx hb dX11_kindHere_2 rfl (lv_at hl 1 rfl) ?_
      refine lv_iconst (v := 5) hx hb dX11_kindHere_3 (by decide) ?_
      refine xi_cgt (tgt := 27) hx hb (rfl : Int32.toInt x1 = x1.toInt) ((by decide) : Int32.toInt 5 = (5 : Int)) dX11_kindHere_4 (by decide) (fun c8 => ?_) (fun c8 => ?_)
      · refine lv_aload_n hx hb dX11_kindHere_27 rfl (lv_at hl 0 rfl) ?_
        refine x_cl0 (x_runV (b := a) (As := []) (rest := []) S (c_X11_next l E K F tl z0 z1 z2 z3 z4 z5 z6 z7 z8 x2 z10 z11 z12 z13 z14 z15 z16 z17 z18 z19 z20 ar0 ar1 ar2 ar3 ar4 ar5 ar6 ar7 ar8 ar9 ar10 a ha (z_X11_kindHere_2 z8.toInt e0 (xr z8)) (z_X11_kindHere_3 x2.toInt hf4 (xr x2))) mv_X11_next km_X11_268 rfl rfl ⟨Nat.le_of_ble_eq_true rfl, Nat.le_of_ble_eq_true rfl⟩ (rc_13 hK hT ha) hK (fun _ => XP.blind) (fun U hU hW => XP.at hK hz hS hT hU hW) rfl hl.1 (Nat.le_of_ble_eq_true rfl) dX11_kindHere_28 ⟨Nat.le_of_ble_eq_true rfl, Nat.le_of_ble_eq_true rfl⟩) hS ?_
        rintro _ u9 H locs ⟨x11, rfl, t10⟩ hT hS
        have hT : TW E K F (tl, [z0, z1, z2, z3, z4, z5, z6, z7, z8, u9, z10, z11, z12, z13, z14, z15, z16, z17, z18, z19, z20], [ar0, ar1, ar2, ar3, ar4, ar5, ar6, ar7, ar8, ar9, ar10]) [] H := hT
        have t10 : x2.toInt ≤ u9.toInt ∧ u9.toInt ≤ 80 ∧ (x11.toInt ≠ 0 → u9.toInt < z8.toInt) := t10
        refine lv_pop hx hb dX11_kindHere_31 rfl ?_
        refine lv_aload_n hx hb dX11_kindHere_32 rfl (lv_at hl 0 rfl) ?_
        refine lv_aload_n hx hb dX11_kindHere_33 rfl (lv_at hl 0 rfl) ?_
        refine gX11_37 S hK hT ha kf_X11_256 dX11_kindHere_34 (v := u9) rfl ?_
        refine x_cv0 (x_runV (b := a) (As := [.int u9]) (rest := []) S (c_X11_wrong l E K F tl z0 z1 z2 z3 z4 z5 z6 z7 z8 u9 z10 z11 z12 z13 z14 z15 z16 z17 z18 z19 z20 ar0 ar1 ar2 ar3 ar4 ar5 ar6 ar7 ar8 ar9 ar10 a u9 ha) mv_X11_wrong km_X11_279 rfl rfl ⟨Nat.le_of_ble_eq_true rfl, Nat.le_of_ble_eq_true rfl⟩ (rc_13 hK hT ha) hK (fun _ => XP.blind) (fun U hU hW => XP.at hK hz hS hT hU hW) rfl hl.1 (Nat.le_of_ble_eq_true rfl) dX11_kindHere_37 ⟨Nat.le_of_ble_eq_true rfl, Nat.le_of_ble_eq_true rfl⟩) hS ?_
        rintro ⟨u13, u14⟩ H locs t15 hT hS
        have hT : TW E K F (tl, [z0, z1, z2, z3, z4, z5, z6, z7, z8, u9, u13, u14, z12, z13, z14, z15, z16, z17, z18, z19, z20], [ar0, ar1, ar2, ar3, ar4, ar5, ar6, ar7, ar8, ar9, ar10]) [] H := hT
        have t15 : u14.toInt = 0 := t15
        refine lv_iconst (v := 0) hx hb dX11_kindHere_40 (by decide) ?_
        exact x_ri hx hb hr hlk hQ (Nat.le_of_ble_eq_true rfl) (Nat.le_of_ble_eq_true rfl) hS dX11_kindHere_41 (u9, u13, u14) ⟨_, rfl, (z_X11_kindHere_4 u14.toInt u9.toInt x11.toInt x2.toInt z8.toInt e0 hf4 (t10).1 (t10).2.1 (t10).2.2 t15 (xr u14) (xr u9) (xr x11) (xr x2) (xr z8))⟩ hT.nil
      · refine lv_aload_n hx hb dX11_kindHere_7 rfl (lv_at hl 0 rfl) ?_
        refine lv_aload_n hx hb dX11_kindHere_8 rfl (lv_at hl 0 rfl) ?_
        refine lv_iload_n hx hb dX11_kindHere_9 rfl (lv_at hl 1 rfl) ?_
        refine x_clp (x_runV (b := a) (As := [.int x1]) (rest := [.ref a]) S (c_X11_wordOf l E K F tl z0 z1 z2 z3 z4 z5 z6 z7 z8 x2 z10 z11 z12 z13 z14 z15 z16 z17 z18 z19 z20 ar0 ar1 ar2 ar3 ar4 ar5 ar6 ar7 ar8 ar9 ar10 H a x1 ha) mv_X11_wordOf km_X11_241 rfl rfl ⟨Nat.le_of_ble_eq_true rfl, Nat.le_of_ble_eq_true rfl⟩ (rc_13 hK hT ha) hK (fun _ => XPh.blind) (fun U hU hW => XPh.at hK hz hS hT hU hW) rfl hl.1 (Nat.le_of_ble_eq_true rfl) dX11_kindHere_10 ⟨Nat.le_of_ble_eq_true rfl, Nat.le_of_ble_eq_true rfl⟩) hS ?_
        rintro _ _ locs ⟨q21, n20, rfl, hk22, t23⟩ hS
        refine x_cl0 (x_runV (b := a) (As := [.ref q21]) (rest := []) S (c_X11_isWord l E K F tl z0 z1 z2 z3 z4 z5 z6 z7 z8 x2 z10 z11 z12 z13 z14 z15 z16 z17 z18 z19 z20 ar0 ar1 ar2 ar3 ar4 ar5 ar6 ar7 ar8 ar9 ar10 a q21 n20 ha hk22 (z_X11_kindHere_5 z8.toInt e0 (xr z8)) (z_X11_kindHere_6 x2.toInt hf4 (xr x2))) mv_X11_isWord km_X11_282 rfl rfl ⟨Nat.le_of_ble_eq_true rfl, Nat.le_of_ble_eq_true rfl⟩ (rc_13 hK hT ha) hK (fun _ => XP.blind) (fun U hU hW => XP.at hK hz hS hT hU hW) rfl hl.1 (Nat.le_of_ble_eq_true rfl) dX11_kindHere_13 ⟨Nat.le_of_ble_eq_true rfl, Nat.le_of_ble_eq_true rfl⟩) hS ?_
        rintro _ u24 H locs ⟨x26, rfl, b27, t25⟩ hT hS
        have hT : TW E K F (tl, [z0, z1, z2, z3, z4, z5, z6, z7, z8, u24, z10, z11, z12, z13, z14, z15, z16, z17, z18, z19, z20], [ar0, ar1, ar2, ar3, ar4, ar5, ar6, ar7, ar8, ar9, ar10]) [] H := hT
        have t25 : 0 ≤ u24.toInt ∧ u24.toInt ≤ 80 := t25
        refine xi_zeq (tgt := 21) hx hb (rfl : Int32.toInt x26 = x26.toInt) dX11_kindHere_16 (by decide) (fun c28 => ?_) (fun c28 => ?_)
        · refine xi_iinc (n := 1) (lv' := fun z9 => [(1, .int z9), (0, .ref a)]) (k := 1) hx hb (rfl : Int32.toInt x1 = x1.toInt) (by decide) dX11_kindHere_21 hl rfl (by decide) (fun _ => rfl) (fun x29 ls t30 hl => ?_)
          have hl : lv_has ls 2 [(1, .int x29), (0, .ref a)] := hl
          refine lv_goto (tgt := 2) hx hb dX11_kindHere_24 (by decide) ?_
          exact ih7 x29 u24 _ _ _ (z_X11_kindHere_7 u24.toInt t25 (xr u24)) (z_X11_kindHere_8 x1.toInt x29.toInt N3 hf5 hm6 c8 t30 (xr x1) (xr x29)) (z_X11_kindHere_9 x1.toInt x29.toInt N3 hf5 hm6 c8 t30 (xr x1) (xr x29)) hT.nil hS (lv_sub hl [1, 0] rfl)
        · refine lv_iload_n hx hb dX11_kindHere_19 rfl (lv_at hl 1 rfl) ?_
          exact x_ri hx hb hr hlk hQ (Nat.le_of_ble_eq_true rfl) (Nat.le_of_ble_eq_true rfl) hS dX11_kindHere_20 (u24, z10, z11) ⟨_, rfl, (z_X11_kindHere_10 u24.toInt x1.toInt z11.toInt N3 e2 hf5 hm6 c8 t25 (xr u24) (xr x1) (xr z11))⟩ hT.nil
  exact L2 4294967297 0 z9 _ _ _ (z_X11_kindHere_11 z9.toInt e1 (xr z9)) (by decide) (by decide) hT.nil hS (lv_sub hl [1, 0] rfl)
