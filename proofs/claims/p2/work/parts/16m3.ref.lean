theorem z_X11_copy_u_1 (a0 : Int) (h0 : (0 : Int) ≤ a0) (r0 : -2147483648 ≤ a0 ∧ a0 < 2147483648) : ¬ (2147483648 - a0 < ((0 : Nat) : Int)) := by omega
theorem z_X11_copy_u_2 (a0 : Int) (a1 : Int) (a2 : Int) (a3 : Int) (a4 : Int) (a5 : Nat) (h0 : 0 ≤ a0 ∧ a0 ≤ 2520) (h1 : 0 ≤ a1 ∧ a1 ≤ 2520) (h2 : (0 : Int) ≤ a2) (h3 : 2147483648 - a2 < ((a5 + 1 : Nat) : Int)) (h4 : ¬ ((360 : Int) ≤ a2)) (h5 : a3 = a1 + a2 ∨ a1 + a2 < -2147483648 ∨ 2147483648 ≤ a1 + a2) (h6 : a4 = a0 + a2 ∨ a0 + a2 < -2147483648 ∨ 2147483648 ≤ a0 + a2) (r0 : -2147483648 ≤ a0 ∧ a0 < 2147483648) (r1 : -2147483648 ≤ a1 ∧ a1 < 2147483648) (r2 : -2147483648 ≤ a2 ∧ a2 < 2147483648) (r3 : -2147483648 ≤ a3 ∧ a3 < 2147483648) (r4 : -2147483648 ≤ a4 ∧ a4 < 2147483648) : 0 ≤ a4 ∧ a4 < a0 + 360 := by omega
theorem z_X11_copy_u_3 (a0 : Int) (a1 : Int) (a2 : Int) (a3 : Int) (a4 : Int) (a5 : Nat) (h0 : 0 ≤ a0 ∧ a0 ≤ 2520) (h1 : 0 ≤ a1 ∧ a1 ≤ 2520) (h2 : (0 : Int) ≤ a2) (h3 : 2147483648 - a2 < ((a5 + 1 : Nat) : Int)) (h4 : ¬ ((360 : Int) ≤ a2)) (h5 : a3 = a1 + a2 ∨ a1 + a2 < -2147483648 ∨ 2147483648 ≤ a1 + a2) (h6 : a4 = a0 + a2 ∨ a0 + a2 < -2147483648 ∨ 2147483648 ≤ a0 + a2) (r0 : -2147483648 ≤ a0 ∧ a0 < 2147483648) (r1 : -2147483648 ≤ a1 ∧ a1 < 2147483648) (r2 : -2147483648 ≤ a2 ∧ a2 < 2147483648) (r3 : -2147483648 ≤ a3 ∧ a3 < 2147483648) (r4 : -2147483648 ≤ a4 ∧ a4 < 2147483648) : 0 ≤ a3 ∧ a3 < a1 + 360 := by omega
theorem z_X11_copy_u_4 (a0 : Int) (a1 : Int) (a2 : Int) (a3 : Int) (a4 : Int) (a5 : Int) (a6 : Nat) (h0 : 0 ≤ a0 ∧ a0 ≤ 2520) (h1 : 0 ≤ a1 ∧ a1 ≤ 2520) (h2 : (0 : Int) ≤ a2) (h3 : 2147483648 - a2 < ((a6 + 1 : Nat) : Int)) (h4 : ¬ ((360 : Int) ≤ a2)) (h5 : a4 = a1 + a2 ∨ a1 + a2 < -2147483648 ∨ 2147483648 ≤ a1 + a2) (h6 : a5 = a0 + a2 ∨ a0 + a2 < -2147483648 ∨ 2147483648 ≤ a0 + a2) (h7 : a3 = a2 + 1 ∨ a2 + 1 < -2147483648 ∨ 2147483648 ≤ a2 + 1) (r0 : -2147483648 ≤ a0 ∧ a0 < 2147483648) (r1 : -2147483648 ≤ a1 ∧ a1 < 2147483648) (r2 : -2147483648 ≤ a2 ∧ a2 < 2147483648) (r3 : -2147483648 ≤ a3 ∧ a3 < 2147483648) (r4 : -2147483648 ≤ a4 ∧ a4 < 2147483648) (r5 : -2147483648 ≤ a5 ∧ a5 < 2147483648) : (0 : Int) ≤ a3 := by omega
theorem z_X11_copy_u_5 (a0 : Int) (a1 : Int) (a2 : Int) (a3 : Int) (a4 : Int) (a5 : Int) (a6 : Nat) (h0 : 0 ≤ a0 ∧ a0 ≤ 2520) (h1 : 0 ≤ a1 ∧ a1 ≤ 2520) (h2 : (0 : Int) ≤ a2) (h3 : 2147483648 - a2 < ((a6 + 1 : Nat) : Int)) (h4 : ¬ ((360 : Int) ≤ a2)) (h5 : a4 = a1 + a2 ∨ a1 + a2 < -2147483648 ∨ 2147483648 ≤ a1 + a2) (h6 : a5 = a0 + a2 ∨ a0 + a2 < -2147483648 ∨ 2147483648 ≤ a0 + a2) (h7 : a3 = a2 + 1 ∨ a2 + 1 < -2147483648 ∨ 2147483648 ≤ a2 + 1) (r0 : -2147483648 ≤ a0 ∧ a0 < 2147483648) (r1 : -2147483648 ≤ a1 ∧ a1 < 2147483648) (r2 : -2147483648 ≤ a2 ∧ a2 < 2147483648) (r3 : -2147483648 ≤ a3 ∧ a3 < 2147483648) (r4 : -2147483648 ≤ a4 ∧ a4 < 2147483648) (r5 : -2147483648 ≤ a5 ∧ a5 < 2147483648) : 2147483648 - a3 < ((a6 : Nat) : Int) := by omega
abbrev rm_X11_copy_u : Room := { frames := 0, cells := 0, slots := 0, locals := 0 }
set_option maxHeartbeats 4000000 in
set_option maxRecDepth 100000 in
theorem c_X11_copy_u (l : Launch) (E : XE) (K : Nat → Nat) (F : Nat → Nat → Nat) (tl z0 z1 z2 z3 z4 z5 z6 z7 z8 z9 z10 z11 z12 z13 z14 z15 z16 z17 z18 z19 z20 : Int32) (ar0 ar1 ar2 ar3 ar4 ar5 ar6 ar7 ar8 ar9 ar10 : Nat → Int32) (p0 : Nat) (p1 : Int32) (p2 : Nat) (p3 : Int32) (hp0 : XO K p0 p1.toInt) (hp2 : XOu K p2 p3.toInt) : Met l yX11_copy (xw yX11_copy cX11_copy 5 none) rm_X11_copy_u (va_Pc [.ref p0, .int p1, .ref p2, .int p3] (XP E K F (tl, [z0, z1, z2, z3, z4, z5, z6, z7, z8, z9, z10, z11, z12, z13, z14, z15, z16, z17, z18, z19, z20], [ar0, ar1, ar2, ar3, ar4, ar5, ar6, ar7, ar8, ar9, ar10]))) (XQv E (fun (u : Unit) => True) (fun _ H => TW E K F (tl, [z0, z1, z2, z3, z4, z5, z6, z7, z8, z9, z10, z11, z12, z13, z14, z15, z16, z17, z18, z19, z20], [ar0, ar1, ar2, ar3, ar4, ar5, ar6, ar7, ar8, ar9, ar10]) [] H)) 0 0 (xA E) := by
  refine x_enter (by decide) (Nat.le_of_ble_eq_true rfl) ?_
  intro p e s m args below meth c Q S hr hlk hnm hQ hP ls hl
  obtain ⟨hz, hK, hT⟩ := hP
  obtain ⟨hx, hb, -, -, -⟩ := id S
  obtain ⟨H, hT, hS, hgo⟩ : ∃ H : Heap, TW E K F (tl, [z0, z1, z2, z3, z4, z5, z6, z7, z8, z9, z10, z11, z12, z13, z14, z15, z16, z17, z18, z19, z20], [ar0, ar1, ar2, ar3, ar4, ar5, ar6, ar7, ar8, ar9, ar10]) [] H ∧ va_S (xA E) s.heap H [] ∧ H = s.heap := ⟨_, hT, va_S.rf, rfl⟩
  rw [← hgo]
  have hl : lv_has ls 5 [(0, .ref p0), (1, .int p1), (2, .ref p2), (3, .int p3)] := hl
  refine lv_iconst (v := 0) hx hb dX11_copy_0 (by decide) ?_
  refine lv_istore (lv' := [(4, .int 0), (0, .ref p0), (1, .int p1), (2, .ref p2), (3, .int p3)]) hx hb dX11_copy_1 hl (by decide) rfl (fun ls hl => ?_)
  have L3 : ∀ (N2 : Nat) (x1 : Int32) (H : Heap) (locs : List Loc) (ls : Array Slot), (0 : Int) ≤ x1.toInt → 2147483648 - x1.toInt < ((N2 : Nat) : Int) → TW E K F (tl, [z0, z1, z2, z3, z4, z5, z6, z7, z8, z9, z10, z11, z12, z13, z14, z15, z16, z17, z18, z19, z20], [ar0, ar1, ar2, ar3, ar4, ar5, ar6, ar7, ar8, ar9, ar10]) [] H → va_S (xA E) s.heap H locs → lv_has ls 5 [(0, .ref p0), (1, .int p1), (2, .ref p2), (3, .int p3), (4, .int x1)] → W p l e rm_X11_copy_u s m args below meth c H locs 0 0 Q (F0 m 3 ls []) := by
    intro N2
    induction N2 with
    | zero =>
      intro x1 H locs ls hf3 hm4
      exact absurd hm4 (z_X11_copy_u_1 x1.toInt hf3 (xr x1))
    | succ N2 ih5 =>
      intro x1 H locs ls hf3 hm4 hT hS hl
      refine lv_iload hx hb dX11_copy_3 (lv_at hl 4 rfl) ?_
      refine lv_sipush (v := 360) hx hb dX11_copy_5 (by decide) ?_
      refine xi_cge (tgt := 29) hx hb (rfl : Int32.toInt x1 = x1.toInt) ((by decide) : Int32.toInt 360 = (360 : Int)) dX11_copy_8 (by decide) (fun c6 => ?_) (fun c6 => ?_)
      · exact x_rv hx hb hr hlk hQ (Nat.le_of_ble_eq_true rfl) (Nat.le_of_ble_eq_true rfl) hS dX11_copy_29 () trivial hT.nil
      · refine lv_aload_n hx hb dX11_copy_11 rfl (lv_at hl 2 rfl) ?_
        refine lv_iload_n hx hb dX11_copy_12 rfl (lv_at hl 3 rfl) ?_
        refine lv_iload hx hb dX11_copy_13 (lv_at hl 4 rfl) ?_
        refine xi_iadd hx hb (rfl : Int32.toInt p3 = p3.toInt) (rfl : Int32.toInt x1 = x1.toInt) dX11_copy_15 (fun x7 t8 => ?_)
        refine lv_aload_n hx hb dX11_copy_16 rfl (lv_at hl 0 rfl) ?_
        refine lv_iload_n hx hb dX11_copy_17 rfl (lv_at hl 1 rfl) ?_
        refine lv_iload hx hb dX11_copy_18 (lv_at hl 4 rfl) ?_
        refine xi_iadd hx hb (rfl : Int32.toInt p1 = p1.toInt) (rfl : Int32.toInt x1 = x1.toInt) dX11_copy_20 (fun x9 t10 => ?_)
        refine ald_of S hK hT hp0 (z_X11_copy_u_2 p1.toInt p3.toInt x1.toInt x7.toInt x9.toInt N2 (XO.lim hp0) (XOu.lim hp2) hf3 hm4 c6 t8 t10 (xr p1) (xr p3) (xr x1) (xr x7) (xr x9)) dX11_copy_21 (fun x11 => ?_)
        refine ast_of S hK hT hS hp2 (z_X11_copy_u_3 p1.toInt p3.toInt x1.toInt x7.toInt x9.toInt N2 (XO.lim hp0) (XOu.lim hp2) hf3 hm4 c6 t8 t10 (xr p1) (xr p3) (xr x1) (xr x7) (xr x9)) dX11_copy_22 (fun H locs hT hS => ?_)
        refine xi_iinc (n := 1) (lv' := fun z9 => [(4, .int z9), (0, .ref p0), (1, .int p1), (2, .ref p2), (3, .int p3)]) (k := 4) hx hb (rfl : Int32.toInt x1 = x1.toInt) (by decide) dX11_copy_23 hl rfl (by decide) (fun _ => rfl) (fun x12 ls t13 hl => ?_)
        have hl : lv_has ls 5 [(4, .int x12), (0, .ref p0), (1, .int p1), (2, .ref p2), (3, .int p3)] := hl
        refine lv_goto (tgt := 3) hx hb dX11_copy_26 (by decide) ?_
        exact ih5 x12 _ _ _ (z_X11_copy_u_4 p1.toInt p3.toInt x1.toInt x12.toInt x7.toInt x9.toInt N2 (XO.lim hp0) (XOu.lim hp2) hf3 hm4 c6 t8 t10 t13 (xr p1) (xr p3) (xr x1) (xr x12) (xr x7) (xr x9)) (z_X11_copy_u_5 p1.toInt p3.toInt x1.toInt x12.toInt x7.toInt x9.toInt N2 (XO.lim hp0) (XOu.lim hp2) hf3 hm4 c6 t8 t10 t13 (xr p1) (xr p3) (xr x1) (xr x12) (xr x7) (xr x9)) hT.nil hS (lv_sub hl [1, 2, 3, 4, 0] rfl)
  exact L3 4294967297 0 _ _ _ (by decide) (by decide) hT.nil hS (lv_sub hl [1, 2, 3, 4, 0] rfl)

theorem z_X11_copy_r_1 (a0 : Int) (h0 : (0 : Int) ≤ a0) (r0 : -2147483648 ≤ a0 ∧ a0 < 2147483648) : ¬ (2147483648 - a0 < ((0 : Nat) : Int)) := by omega
theorem z_X11_copy_r_2 (a0 : Int) (a1 : Int) (a2 : Int) (a3 : Int) (a4 : Int) (a5 : Nat) (h0 : a1 = 0) (h1 : 0 ≤ a0 ∧ a0 ≤ 2520) (h2 : (0 : Int) ≤ a2) (h3 : 2147483648 - a2 < ((a5 + 1 : Nat) : Int)) (h4 : ¬ ((360 : Int) ≤ a2)) (h5 : a4 = a1 + a2 ∨ a1 + a2 < -2147483648 ∨ 2147483648 ≤ a1 + a2) (h6 : a3 = a0 + a2 ∨ a0 + a2 < -2147483648 ∨ 2147483648 ≤ a0 + a2) (r0 : -2147483648 ≤ a0 ∧ a0 < 2147483648) (r1 : -2147483648 ≤ a1 ∧ a1 < 2147483648) (r2 : -2147483648 ≤ a2 ∧ a2 < 2147483648) (r3 : -2147483648 ≤ a3 ∧ a3 < 2147483648) (r4 : -2147483648 ≤ a4 ∧ a4 < 2147483648) : 0 ≤ a3 ∧ a3 < a0 + 360 := by omega
theorem z_X11_copy_r_3 (a0 : Int) (a1 : Int) (a2 : Int) (a3 : Int) (a4 : Int) (a5 : Nat) (h0 : a1 = 0) (h1 : 0 ≤ a0 ∧ a0 ≤ 2520) (h2 : (0 : Int) ≤ a2) (h3 : 2147483648 - a2 < ((a5 + 1 : Nat) : Int)) (h4 : ¬ ((360 : Int) ≤ a2)) (h5 : a4 = a1 + a2 ∨ a1 + a2 < -2147483648 ∨ 2147483648 ≤ a1 + a2) (h6 : a3 = a0 + a2 ∨ a0 + a2 < -2147483648 ∨ 2147483648 ≤ a0 + a2) (r0 : -2147483648 ≤ a0 ∧ a0 < 2147483648) (r1 : -2147483648 ≤ a1 ∧ a1 < 2147483648) (r2 : -2147483648 ≤ a2 ∧ a2 < 2147483648) (r3 : -2147483648 ≤ a3 ∧ a3 < 2147483648) (r4 : -2147483648 ≤ a4 ∧ a4 < 2147483648) : 0 ≤ a4 ∧ a4 < ((360 : Nat) : Int) := by omega
theorem z_X11_copy_r_4 (a0 : Int) (a1 : Int) (a2 : Int) (a3 : Int) (a4 : Int) (a5 : Int) (a6 : Nat) (h0 : a1 = 0) (h1 : 0 ≤ a0 ∧ a0 ≤ 2520) (h2 : (0 : Int) ≤ a2) (h3 : 2147483648 - a2 < ((a6 + 1 : Nat) : Int)) (h4 : ¬ ((360 : Int) ≤ a2)) (h5 : a5 = a1 + a2 ∨ a1 + a2 < -2147483648 ∨ 2147483648 ≤ a1 + a2) (h6 : a3 = a0 + a2 ∨ a0 + a2 < -2147483648 ∨ 2147483648 ≤ a0 + a2) (h7 : a4 = a2 + 1 ∨ a2 + 1 < -2147483648 ∨ 2147483648 ≤ a2 + 1) (r0 : -2147483648 ≤ a0 ∧ a0 < 2147483648) (r1 : -2147483648 ≤ a1 ∧ a1 < 2147483648) (r2 : -2147483648 ≤ a2 ∧ a2 < 2147483648) (r3 : -2147483648 ≤ a3 ∧ a3 < 2147483648) (r4 : -2147483648 ≤ a4 ∧ a4 < 2147483648) (r5 : -2147483648 ≤ a5 ∧ a5 < 2147483648) : (0 : Int) ≤ a4 := by omega
theorem z_X11_copy_r_5 (a0 : Int) (a1 : Int) (a2 : Int) (a3 : Int) (a4 : Int) (a5 : Int) (a6 : Nat) (h0 : a1 = 0) (h1 : 0 ≤ a0 ∧ a0 ≤ 2520) (h2 : (0 : Int) ≤ a2) (h3 : 2147483648 - a2 < ((a6 + 1 : Nat) : Int)) (h4 : ¬ ((360 : Int) ≤ a2)) (h5 : a5 = a1 + a2 ∨ a1 + a2 < -2147483648 ∨ 2147483648 ≤ a1 + a2) (h6 : a3 = a0 + a2 ∨ a0 + a2 < -2147483648 ∨ 2147483648 ≤ a0 + a2) (h7 : a4 = a2 + 1 ∨ a2 + 1 < -2147483648 ∨ 2147483648 ≤ a2 + 1) (r0 : -2147483648 ≤ a0 ∧ a0 < 2147483648) (r1 : -2147483648 ≤ a1 ∧ a1 < 2147483648) (r2 : -2147483648 ≤ a2 ∧ a2 < 2147483648) (r3 : -2147483648 ≤ a3 ∧ a3 < 2147483648) (r4 : -2147483648 ≤ a4 ∧ a4 < 2147483648) (r5 : -2147483648 ≤ a5 ∧ a5 < 2147483648) : 2147483648 - a4 < ((a6 : Nat) : Int) := by omega
abbrev rm_X11_copy_r : Room := { frames := 0, cells := 0, slots := 0, locals := 0 }
set_option maxHeartbeats 4000000 in
set_option maxRecDepth 100000 in
theorem c_X11_copy_r (l : Launch) (E : XE) (K : Nat → Nat) (F : Nat → Nat → Nat) (tl z0 z1 z2 z3 z4 z5 z6 z7 z8 z9 z10 z11 z12 z13 z14 z15 z16 z17 z18 z19 z20 : Int32) (ar0 ar1 ar2 ar3 ar4 ar5 ar6 ar7 ar8 ar9 ar10 : Nat → Int32) (p0 : Nat) (p1 : Int32) (p2 : Nat) (p3 : Int32) (hp0 : XO K p0 p1.toInt) (hp2 : K p2 = 30) (e0 : p3.toInt = 0) : Met l yX11_copy (xw yX11_copy cX11_copy 5 none) rm_X11_copy_r (va_Pc [.ref p0, .int p1, .ref p2, .int p3] (XP E K F (tl, [z0, z1, z2, z3, z4, z5, z6, z7, z8, z9, z10, z11, z12, z13, z14, z15, z16, z17, z18, z19, z20], [ar0, ar1, ar2, ar3, ar4, ar5, ar6, ar7, ar8, ar9, ar10]))) (XQv E (fun (u : (Nat → Int32)) => True) (fun u H => TW E K F (tl, [z0, z1, z2, z3, z4, z5, z6, z7, z8, z9, z10, z11, z12, z13, z14, z15, z16, z17, z18, z19, z20], [u, ar1, ar2, ar3, ar4, ar5, ar6, ar7, ar8, ar9, ar10]) [] H)) 0 0 (xA E) := by
  refine x_enter (by decide) (Nat.le_of_ble_eq_true rfl) ?_
  intro p e s m args below meth c Q S hr hlk hnm hQ hP ls hl
  obtain ⟨hz, hK, hT⟩ := hP
  obtain ⟨hx, hb, -, -, -⟩ := id S
  obtain ⟨H, hT, hS, hgo⟩ : ∃ H : Heap, TW E K F (tl, [z0, z1, z2, z3, z4, z5, z6, z7, z8, z9, z10, z11, z12, z13, z14, z15, z16, z17, z18, z19, z20], [ar0, ar1, ar2, ar3, ar4, ar5, ar6, ar7, ar8, ar9, ar10]) [] H ∧ va_S (xA E) s.heap H [] ∧ H = s.heap := ⟨_, hT, va_S.rf, rfl⟩
  rw [← hgo]
  have hl : lv_has ls 5 [(0, .ref p0), (1, .int p1), (2, .ref p2), (3, .int p3)] := hl
  refine lv_iconst (v := 0) hx hb dX11_copy_0 (by decide) ?_
  refine lv_istore (lv' := [(4, .int 0), (0, .ref p0), (1, .int p1), (2, .ref p2), (3, .int p3)]) hx hb dX11_copy_1 hl (by decide) rfl (fun ls hl => ?_)
  have L3 : ∀ (N3 : Nat) (x1 : Int32) (f2 : Nat → Int32) (H : Heap) (locs : List Loc) (ls : Array Slot), (0 : Int) ≤ x1.toInt → 2147483648 - x1.toInt < ((N3 : Nat) : Int) → TW E K F (tl, [z0, z1, z2, z3, z4, z5, z6, z7, z8, z9, z10, z11, z12, z13, z14, z15, z16, z17, z18, z19, z20], [f2, ar1, ar2, ar3, ar4, ar5, ar6, ar7, ar8, ar9, ar10]) [] H → va_S (xA E) s.heap H locs → lv_has ls 5 [(0, .ref p0), (1, .int p1), (2, .ref p2), (3, .int p3), (4, .int x1)] → W p l e rm_X11_copy_r s m args below meth c H locs 0 0 Q (F0 m 3 ls []) := by
    intro N3
    induction N3 with
    | zero =>
      intro x1 f2 H locs ls hf4 hm5
      exact absurd hm5 (z_X11_copy_r_1 x1.toInt hf4 (xr x1))
    | succ N3 ih6 =>
      intro x1 f2 H locs ls hf4 hm5 hT hS hl
      refine lv_iload hx hb dX11_copy_3 (lv_at hl 4 rfl) ?_
      refine lv_sipush (v := 360) hx hb dX11_copy_5 (by decide) ?_
      refine xi_cge (tgt := 29) hx hb (rfl : Int32.toInt x1 = x1.toInt) ((by decide) : Int32.toInt 360 = (360 : Int)) dX11_copy_8 (by decide) (fun c7 => ?_) (fun c7 => ?_)
      · exact x_rv hx hb hr hlk hQ (Nat.le_of_ble_eq_true rfl) (Nat.le_of_ble_eq_true rfl) hS dX11_copy_29 (f2) trivial hT.nil
      · refine lv_aload_n hx hb dX11_copy_11 rfl (lv_at hl 2 rfl) ?_
        refine lv_iload_n hx hb dX11_copy_12 rfl (lv_at hl 3 rfl) ?_
        refine lv_iload hx hb dX11_copy_13 (lv_at hl 4 rfl) ?_
        refine xi_iadd hx hb (rfl : Int32.toInt p3 = p3.toInt) (rfl : Int32.toInt x1 = x1.toInt) dX11_copy_15 (fun x8 t9 => ?_)
        refine lv_aload_n hx hb dX11_copy_16 rfl (lv_at hl 0 rfl) ?_
        refine lv_iload_n hx hb dX11_copy_17 rfl (lv_at hl 1 rfl) ?_
        refine lv_iload hx hb dX11_copy_18 (lv_at hl 4 rfl) ?_
        refine xi_iadd hx hb (rfl : Int32.toInt p1 = p1.toInt) (rfl : Int32.toInt x1 = x1.toInt) dX11_copy_20 (fun x10 t11 => ?_)
        refine ald_of S hK hT hp0 (z_X11_copy_r_2 p1.toInt p3.toInt x1.toInt x10.toInt x8.toInt N3 e0 (XO.lim hp0) hf4 hm5 c7 t9 t11 (xr p1) (xr p3) (xr x1) (xr x10) (xr x8)) dX11_copy_21 (fun x12 => ?_)
        refine tst_0 S hK hT hS hp2 (at_30 (f := f2) rfl) (fun _ => bt_30 (Nat.le_of_ble_eq_true rfl)) (by decide) (by decide) xti_30 (z_X11_copy_r_3 p1.toInt p3.toInt x1.toInt x10.toInt x8.toInt N3 e0 (XO.lim hp0) hf4 hm5 c7 t9 t11 (xr p1) (xr p3) (xr x1) (xr x10) (xr x8)) dX11_copy_22 (fun f13 H locs hu14 hT hS => ?_)
        have hT : TW E K F (tl, [z0, z1, z2, z3, z4, z5, z6, z7, z8, z9, z10, z11, z12, z13, z14, z15, z16, z17, z18, z19, z20], [f13, ar1, ar2, ar3, ar4, ar5, ar6, ar7, ar8, ar9, ar10]) [] H := hT
        refine xi_iinc (n := 1) (lv' := fun z9 => [(4, .int z9), (0, .ref p0), (1, .int p1), (2, .ref p2), (3, .int p3)]) (k := 4) hx hb (rfl : Int32.toInt x1 = x1.toInt) (by decide) dX11_copy_23 hl rfl (by decide) (fun _ => rfl) (fun x15 ls t16 hl => ?_)
        have hl : lv_has ls 5 [(4, .int x15), (0, .ref p0), (1, .int p1), (2, .ref p2), (3, .int p3)] := hl
        refine lv_goto (tgt := 3) hx hb dX11_copy_26 (by decide) ?_
        exact ih6 x15 f13 _ _ _ (z_X11_copy_r_4 p1.toInt p3.toInt x1.toInt x10.toInt x15.toInt x8.toInt N3 e0 (XO.lim hp0) hf4 hm5 c7 t9 t11 t16 (xr p1) (xr p3) (xr x1) (xr x10) (xr x15) (xr x8)) (z_X11_copy_r_5 p1.toInt p3.toInt x1.toInt x10.toInt x15.toInt x8.toInt N3 e0 (XO.lim hp0) hf4 hm5 c7 t9 t11 t16 (xr p1) (xr p3) (xr x1) (xr x10) (xr x15) (xr x8)) hT.nil hS (lv_sub hl [1, 2, 3, 4, 0] rfl)
  exact L3 4294967297 0 ar0 _ _ _ (by decide) (by decide) hT.nil hS (lv_sub hl [1, 2, 3, 4, 0] rfl)

abbrev rm_X11_start : Room := { frames := 4, cells := 0, slots := 0, locals := 102 }
set_option maxHeartbeats 4000000 in
set_option maxRecDepth 100000 in
theorem c_X11_start (l : Launch) (E : XE) (K : Nat → Nat) (F : Nat → Nat → Nat) (tl z0 z1 z2 z3 z4 z5 z6 z7 z8 z9 z10 z11 z12 z13 z14 z15 z16 z17 z18 z19 z20 : Int32) (ar0 ar1 ar2 ar3 ar4 ar5 ar6 ar7 ar8 ar9 ar10 : Nat → Int32) (a : Nat) (ha : K a = 13) (hR : RV ar1) : Met l yX11_start (xw yX11_start cX11_start 1 none) rm_X11_start (va_Pc [.ref a] (XP E K F (tl, [z0, z1, z2, z3, z4, z5, z6, z7, z8, z9, z10, z11, z12, z13, z14, z15, z16, z17, z18, z19, z20], [ar0, ar1, ar2, ar3, ar4, ar5, ar6, ar7, ar8, ar9, ar10]))) (XQv E (fun (u : Unit) => True) (fun _ H => TW E K F (tl, [z0, z1, z2, z3, z4, z5, z6, z7, z8, z9, z10, z11, z12, z13, z14, z15, z16, z17, z18, z19, z20], [ar0, ar1, ar2, ar3, ar4, ar5, ar6, ar7, ar8, ar9, ar10]) [] H)) 0 0 (xA E) := by
  refine x_enter (by decide) (Nat.le_of_ble_eq_true rfl) ?_
  intro p e s m args below meth c Q S hr hlk hnm hQ hP ls hl
  obtain ⟨hz, hK, hT⟩ := hP
  obtain ⟨hx, hb, -, -, -⟩ := id S
  obtain ⟨H, hT, hS, hgo⟩ : ∃ H : Heap, TW E K F (tl, [z0, z1, z2, z3, z4, z5, z6, z7, z8, z9, z10, z11, z12, z13, z14, z15, z16, z17, z18, z19, z20], [ar0, ar1, ar2, ar3, ar4, ar5, ar6, ar7, ar8, ar9, ar10]) [] H ∧ va_S (xA E) s.heap H [] ∧ H = s.heap := ⟨_, hT, va_S.rf, rfl⟩
  rw [← hgo]
  have hl : lv_has ls 1 [(0, .ref a)] := hl
  refine lv_aload_n hx hb dX11_start_0 rfl (lv_at hl 0 rfl) ?_
  refine gX11_1 S hK hT ha kf_X11_9 dX11_start_1 (fun hk1 => ?_)
  refine lv_iconst (v := 0) hx hb dX11_start_4 (by decide) ?_
  refine lv_aload_n hx hb dX11_start_5 rfl (lv_at hl 0 rfl) ?_
  refine gX11_4 S hK hT ha kf_X11_21 dX11_start_6 (fun hk2 => ?_)
  refine lv_iconst (v := 0) hx hb dX11_start_9 (by decide) ?_
  refine x_cv0 (x_runS (As := [.ref (F a 1), .int 0, .ref (F a 4), .int 0]) (rest := []) S (c_X11_copy_u l E K F tl z0 z1 z2 z3 z4 z5 z6 z7 z8 z9 z10 z11 z12 z13 z14 z15 z16 z17 z18 z19 z20 ar0 ar1 ar2 ar3 ar4 ar5 ar6 ar7 ar8 ar9 ar10 (F a 1) 0 (F a 4) 0 (XO.a hk1 (by decide)) (XOu.b hk2 (by decide))) ms_X11_copy km_X11_309 rfl rfl ⟨Nat.le_of_ble_eq_true rfl, Nat.le_of_ble_eq_true rfl⟩ hK (fun _ => XP.blind) (fun U hU hW => XP.at hK hz hS hT hU hW) rfl hl.1 (Nat.le_of_ble_eq_true rfl) dX11_start_10 ⟨Nat.le_of_ble_eq_true rfl, Nat.le_of_ble_eq_true rfl⟩) hS ?_
  rintro _ H locs - hT hS
  refine lv_aload_n hx hb dX11_start_13 rfl (lv_at hl 0 rfl) ?_
  refine lv_aload_n hx hb dX11_start_14 rfl (lv_at hl 0 rfl) ?_
  refine gX11_12 S hK hT ha kf_X11_39 dX11_start_15 (fun hk5 => ?_)
  refine lv_aload_n hx hb dX11_start_18 rfl (lv_at hl 0 rfl) ?_
  refine gX11_1 S hK hT ha kf_X11_9 dX11_start_19 (fun hk6 => ?_)
  refine lv_iconst (v := 0) hx hb dX11_start_22 (by decide) ?_
  refine x_cv0 (x_runV (b := a) (As := [.ref (F a 12), .ref (F a 1), .int 0]) (rest := []) S (c_X11_layStates l E K F tl z0 z1 z2 z3 z4 z5 z6 z7 z8 z9 z10 z11 z12 z13 z14 z15 z16 z17 z18 z19 z20 ar0 ar1 ar2 ar3 ar4 ar5 ar6 ar7 ar8 ar9 ar10 a (F a 12) (F a 1) 0 ha hk5 (XO.a hk6 (by decide)) hR) mv_X11_layStates km_X11_210 rfl rfl ⟨Nat.le_of_ble_eq_true rfl, Nat.le_of_ble_eq_true rfl⟩ (rc_13 hK hT ha) hK (fun _ => XP.blind) (fun U hU hW => XP.at hK hz hS hT hU hW) rfl hl.1 (Nat.le_of_ble_eq_true rfl) dX11_start_23 ⟨Nat.le_of_ble_eq_true rfl, Nat.le_of_ble_eq_true rfl⟩) hS ?_
  rintro _ H locs - hT hS
  exact x_rv hx hb hr hlk hQ (Nat.le_of_ble_eq_true rfl) (Nat.le_of_ble_eq_true rfl) hS dX11_start_26 () trivial hT.nil

theorem z_X11_asks_1 (a0 : Int) (a1 : Nat) (h0 : 0 ≤ a0 ∧ a0 ≤ 2388 ∧ a0 ≤ ((a1 : Nat) : Int)) (r0 : -2147483648 ≤ a0 ∧ a0 < 2147483648) : 0 ≤ a0 ∧ a0 ≤ 2388 ∧ a0 ≤ ((a1 : Nat) : Int) := by omega
theorem z_X11_asks_2 (a0 : Int) (a1 : Int) (a2 : Nat) (h0 : 0 ≤ a0 ∧ a0 ≤ 2388 ∧ a0 ≤ ((a2 : Nat) : Int)) (h1 : a1 = -1 ∨ (0 ≤ a1 ∧ a1 < a0)) (r0 : -2147483648 ≤ a0 ∧ a0 < 2147483648) (r1 : -2147483648 ≤ a1 ∧ a1 < 2147483648) : 0 ≤ a0 ∧ a0 ≤ 2388 ∧ a0 ≤ ((a2 : Nat) : Int) ∧ (a1 = -1 ∨ (0 ≤ a1 ∧ a1 < a0)) := by omega
abbrev rm_X11_asks : Room := { frames := 5, cells := 0, slots := 0, locals := 125 }
set_option maxHeartbeats 4000000 in
set_option maxRecDepth 100000 in
theorem c_X11_asks (l : Launch) (E : XE) (K : Nat → Nat) (F : Nat → Nat → Nat) (tl z0 z1 z2 z3 z4 z5 z6 z7 z8 z9 z10 z11 z12 z13 z14 z15 z16 z17 z18 z19 z20 : Int32) (ar0 ar1 ar2 ar3 ar4 ar5 ar6 ar7 ar8 ar9 ar10 : Nat → Int32) (a : Nat) (p0 : Int32) (ha : K a = 13) (hR : RV ar1) : Met l yX11_asks (xw yX11_asks cX11_asks 2 (some .int)) rm_X11_asks (va_Pc [.ref a, .int p0] (XP E K F (tl, [z0, z1, z2, z3, z4, z5, z6, z7, z8, z9, z10, z11, z12, z13, z14, z15, z16, z17, z18, z19, z20], [ar0, ar1, ar2, ar3, ar4, ar5, ar6, ar7, ar8, ar9, ar10]))) (XQ E (fun v (u : Int32 × Int32 × (Nat → Int32) × (Nat → Int32) × (Nat → Int32)) => ∃ r : Int32, v = .int r ∧ (0 ≤ u.2.1.toInt ∧ u.2.1.toInt ≤ 2388 ∧ u.2.1.toInt ≤ (((fV ar1 u.2.2.2.1 u.2.2.2.2) : Nat) : Int) ∧ (r.toInt = -1 ∨ (0 ≤ r.toInt ∧ r.toInt < u.2.1.toInt)))) (fun u H => TW E K F (tl, [z0, z1, z2, u.1, u.2.1, z5, z6, z7, z8, z9, z10, z11, z12, z13, z14, z15, z16, z17, z18, z19, z20], [ar0, ar1, u.2.2.1, u.2.2.2.1, u.2.2.2.2, ar5, ar6, ar7, ar8, ar9, ar10]) [] H)) 0 0 (xA E) := by
  refine x_enter (by decide) (Nat.le_of_ble_eq_true rfl) ?_
  intro p e s m args below meth c Q S hr hlk hnm hQ hP ls hl
  obtain ⟨hz, hK, hT⟩ := hP
  obtain ⟨hx, hb, -, -, -⟩ := id S
  obtain ⟨H, hT, hS, hgo⟩ : ∃ H : Heap, TW E K F (tl, [z0, z1, z2, z3, z4, z5, z6, z7, z8, z9, z10, z11, z12, z13, z14, z15, z16, z17, z18, z19, z20], [ar0, ar1, ar2, ar3, ar4, ar5, ar6, ar7, ar8, ar9, ar10]) [] H ∧ va_S (xA E) s.heap H [] ∧ H = s.heap := ⟨_, hT, va_S.rf, rfl⟩
  rw [← hgo]
  have hl : lv_has ls 2 [(0, .ref a), (1, .int p0)] := hl
  refine lv_aload_n hx hb dX11_asks_0 rfl (lv_at hl 0 rfl) ?_
  refine lv_iload_n hx hb dX11_asks_1 rfl (lv_at hl 1 rfl) ?_
  refine lv_aload_n hx hb dX11_asks_2 rfl (lv_at hl 0 rfl) ?_
  refine gX11_12 S hK hT ha kf_X11_39 dX11_asks_3 (fun hk1 => ?_)
  refine lv_aload_n hx hb dX11_asks_6 rfl (lv_at hl 0 rfl) ?_
  refine gX11_11 S hK hT ha kf_X11_36 dX11_asks_7 (fun hk2 => ?_)
  refine x_cv0 (x_runV (b := a) (As := [.int p0, .ref (F a 12), .ref (F a 11)]) (rest := []) S (c_X11_findUnlike l E K F tl z0 z1 z2 z3 z4 z5 z6 z7 z8 z9 z10 z11 z12 z13 z14 z15 z16 z17 z18 z19 z20 ar0 ar1 ar2 ar3 ar4 ar5 ar6 ar7 ar8 ar9 ar10 a p0 (F a 12) (F a 11) ha hk1 hk2 hR) mv_X11_findUnlike km_X11_214 rfl rfl ⟨Nat.le_of_ble_eq_true rfl, Nat.le_of_ble_eq_true rfl⟩ (rc_13 hK hT ha) hK (fun _ => XP.blind) (fun U hU hW => XP.at hK hz hS hT hU hW) rfl hl.1 (Nat.le_of_ble_eq_true rfl) dX11_asks_10 ⟨Nat.le_of_ble_eq_true rfl, Nat.le_of_ble_eq_true rfl⟩) hS ?_
  rintro ⟨u3, u4, f5, f6, f7⟩ H locs t8 hT hS
  have hT : TW E K F (tl, [z0, z1, z2, u3, u4, z5, z6, z7, z8, z9, z10, z11, z12, z13, z14, z15, z16, z17, z18, z19, z20], [ar0, ar1, f5, f6, f7, ar5, ar6, ar7, ar8, ar9, ar10]) [] H := hT
  have t8 : 0 ≤ u4.toInt ∧ u4.toInt ≤ 2388 ∧ u4.toInt ≤ (((fV ar1 f6 f7) : Nat) : Int) := t8
  refine lv_aload_n hx hb dX11_asks_13 rfl (lv_at hl 0 rfl) ?_
  refine x_clp (x_runV (b := a) (As := []) (rest := []) S (c_X11_firstFailing l E K F tl z0 z1 z2 u3 u4 z5 z6 z7 z8 z9 z10 z11 z12 z13 z14 z15 z16 z17 z18 z19 z20 ar0 ar1 f5 f6 f7 ar5 ar6 ar7 ar8 ar9 ar10 H a ha hR (z_X11_asks_1 u4.toInt (fV ar1 f6 f7) t8 (xr u4))) mv_X11_firstFailing km_X11_313 rfl rfl ⟨Nat.le_of_ble_eq_true rfl, Nat.le_of_ble_eq_true rfl⟩ (rc_13 hK hT ha) hK (fun _ => XPh.blind) (fun U hU hW => XPh.at hK hz hS hT hU hW) rfl hl.1 (Nat.le_of_ble_eq_true rfl) dX11_asks_14 ⟨Nat.le_of_ble_eq_true rfl, Nat.le_of_ble_eq_true rfl⟩) hS ?_
  rintro _ _ locs ⟨x12, rfl, t11⟩ hS
  have t11 : x12.toInt = -1 ∨ (0 ≤ x12.toInt ∧ x12.toInt < u4.toInt) := t11
  exact x_ri hx hb hr hlk hQ (Nat.le_of_ble_eq_true rfl) (Nat.le_of_ble_eq_true rfl) hS dX11_asks_17 (u3, u4, f5, f6, f7) ⟨_, rfl, (z_X11_asks_2 u4.toInt x12.toInt (fV ar1 f6 f7) t8 t11 (xr u4) (xr x12))⟩ hT.nil

theorem z_X11_look_1 (a0 : Int) (a1 : Int) (a2 : Nat) (h0 : 0 ≤ a0 ∧ a0 ≤ 2388 ∧ a0 ≤ ((a2 : Nat) : Int) ∧ (a1 = -1 ∨ (0 ≤ a1 ∧ a1 < a0))) (r0 : -2147483648 ≤ a0 ∧ a0 < 2147483648) (r1 : -2147483648 ≤ a1 ∧ a1 < 2147483648) : 0 ≤ a0 ∧ a0 ≤ 2388 ∧ a0 ≤ ((a2 : Nat) : Int) ∧ a1 = a1 ∧ (a1 = -1 ∨ (0 ≤ a1 ∧ a1 < a0)) := by omega
abbrev rm_X11_look : Room := { frames := 6, cells := 0, slots := 0, locals := 146 }
set_option maxHeartbeats 4000000 in
set_option maxRecDepth 100000 in
theorem c_X11_look (l : Launch) (E : XE) (K : Nat → Nat) (F : Nat → Nat → Nat) (tl z0 z1 z2 z3 z4 z5 z6 z7 z8 z9 z10 z11 z12 z13 z14 z15 z16 z17 z18 z19 z20 : Int32) (ar0 ar1 ar2 ar3 ar4 ar5 ar6 ar7 ar8 ar9 ar10 : Nat → Int32) (a : Nat) (ha : K a = 13) (hR : RV ar1) : Met l yX11_look (xw yX11_look cX11_look 1 (some .int)) rm_X11_look (va_Pc [.ref a] (XP E K F (tl, [z0, z1, z2, z3, z4, z5, z6, z7, z8, z9, z10, z11, z12, z13, z14, z15, z16, z17, z18, z19, z20], [ar0, ar1, ar2, ar3, ar4, ar5, ar6, ar7, ar8, ar9, ar10]))) (XQ E (fun v (u : Int32 × Int32 × Int32 × Int32 × (Nat → Int32) × (Nat → Int32) × (Nat → Int32)) => ∃ r : Int32, v = .int r ∧ (0 ≤ u.2.1.toInt ∧ u.2.1.toInt ≤ 2388 ∧ u.2.1.toInt ≤ (((fV ar1 u.2.2.2.2.2.1 u.2.2.2.2.2.2) : Nat) : Int) ∧ u.2.2.2.1.toInt = r.toInt ∧ (r.toInt = -1 ∨ (0 ≤ r.toInt ∧ r.toInt < u.2.1.toInt)))) (fun u H => TW E K F (tl, [z0, z1, z2, u.1, u.2.1, z5, z6, z7, z8, z9, z10, z11, z12, z13, u.2.2.1, u.2.2.2.1, z16, z17, z18, z19, z20], [ar0, ar1, u.2.2.2.2.1, u.2.2.2.2.2.1, u.2.2.2.2.2.2, ar5, ar6, ar7, ar8, ar9, ar10]) [] H)) 0 0 (xA E) := by
  refine x_enter (by decide) (Nat.le_of_ble_eq_true rfl) ?_
  intro p e s m args below meth c Q S hr hlk hnm hQ hP ls hl
  obtain ⟨hz, hK, hT⟩ := hP
  obtain ⟨hx, hb, -, -, -⟩ := id S
  obtain ⟨H, hT, hS, hgo⟩ : ∃ H : Heap, TW E K F (tl, [z0, z1, z2, z3, z4, z5, z6, z7, z8, z9, z10, z11, z12, z13, z14, z15, z16, z17, z18, z19, z20], [ar0, ar1, ar2, ar3, ar4, ar5, ar6, ar7, ar8, ar9, ar10]) [] H ∧ va_S (xA E) s.heap H [] ∧ H = s.heap := ⟨_, hT, va_S.rf, rfl⟩
  rw [← hgo]
  have hl : lv_has ls 1 [(0, .ref a)] := hl
  refine lv_aload_n hx hb dX11_look_0 rfl (lv_at hl 0 rfl) ?_
  refine lv_aload_n hx hb dX11_look_1 rfl (lv_at hl 0 rfl) ?_
  refine gX11_11 S hK hT ha kf_X11_36 dX11_look_2 (fun hk1 => ?_)
  refine lv_aload_n hx hb dX11_look_5 rfl (lv_at hl 0 rfl) ?_
  refine gX11_1 S hK hT ha kf_X11_9 dX11_look_6 (fun hk2 => ?_)
  refine lv_iconst (v := 0) hx hb dX11_look_9 (by decide) ?_
  refine x_cv0 (x_runV (b := a) (As := [.ref (F a 11), .ref (F a 1), .int 0]) (rest := []) S (c_X11_layStates l E K F tl z0 z1 z2 z3 z4 z5 z6 z7 z8 z9 z10 z11 z12 z13 z14 z15 z16 z17 z18 z19 z20 ar0 ar1 ar2 ar3 ar4 ar5 ar6 ar7 ar8 ar9 ar10 a (F a 11) (F a 1) 0 ha hk1 (XO.a hk2 (by decide)) hR) mv_X11_layStates km_X11_210 rfl rfl ⟨Nat.le_of_ble_eq_true rfl, Nat.le_of_ble_eq_true rfl⟩ (rc_13 hK hT ha) hK (fun _ => XP.blind) (fun U hU hW => XP.at hK hz hS hT hU hW) rfl hl.1 (Nat.le_of_ble_eq_true rfl) dX11_look_10 ⟨Nat.le_of_ble_eq_true rfl, Nat.le_of_ble_eq_true rfl⟩) hS ?_
  rintro _ H locs - hT hS
  refine lv_aload_n hx hb dX11_look_13 rfl (lv_at hl 0 rfl) ?_
  refine lv_iconst (v := 2) hx hb dX11_look_14 (by decide) ?_
  refine lv_aload_n hx hb dX11_look_15 rfl (lv_at hl 0 rfl) ?_
  refine gX11_12 S hK hT ha kf_X11_39 dX11_look_16 (fun hk5 => ?_)
  refine lv_aload_n hx hb dX11_look_19 rfl (lv_at hl 0 rfl) ?_
  refine gX11_11 S hK hT ha kf_X11_36 dX11_look_20 (fun hk6 => ?_)
  refine x_cv0 (x_runV (b := a) (As := [.int 2, .ref (F a 12), .ref (F a 11)]) (rest := []) S (c_X11_findUnlike l E K F tl z0 z1 z2 z3 z4 z5 z6 z7 z8 z9 z10 z11 z12 z13 z14 z15 z16 z17 z18 z19 z20 ar0 ar1 ar2 ar3 ar4 ar5 ar6 ar7 ar8 ar9 ar10 a 2 (F a 12) (F a 11) ha hk5 hk6 hR) mv_X11_findUnlike km_X11_214 rfl rfl ⟨Nat.le_of_ble_eq_true rfl, Nat.le_of_ble_eq_true rfl⟩ (rc_13 hK hT ha) hK (fun _ => XP.blind) (fun U hU hW => XP.at hK hz hS hT hU hW) rfl hl.1 (Nat.le_of_ble_eq_true rfl) dX11_look_23 ⟨Nat.le_of_ble_eq_true rfl, Nat.le_of_ble_eq_true rfl⟩) hS ?_
  rintro ⟨u7, u8, f9, f10, f11⟩ H locs t12 hT hS
  have hT : TW E K F (tl, [z0, z1, z2, u7, u8, z5, z6, z7, z8, z9, z10, z11, z12, z13, z14, z15, z16, z17, z18, z19, z20], [ar0, ar1, f9, f10, f11, ar5, ar6, ar7, ar8, ar9, ar10]) [] H := hT
  have t12 : 0 ≤ u8.toInt ∧ u8.toInt ≤ 2388 ∧ u8.toInt ≤ (((fV ar1 f10 f11) : Nat) : Int) := t12
  refine lv_aload_n hx hb dX11_look_26 rfl (lv_at hl 0 rfl) ?_
  refine lv_aload_n hx hb dX11_look_27 rfl (lv_at hl 0 rfl) ?_
  refine gX11_19 S hK hT ha kf_X11_203 dX11_look_28 (v := u8) rfl ?_
  refine pX11_45 (kq := []) (v := u8) S hK hT hS ha kf_X11_316 (Nat.le_of_ble_eq_true rfl) dX11_look_31 (fun _ h => by cases h) (fun H locs hT hS => ?_)
  have hT : TW E K F (tl, [z0, z1, z2, u7, u8, z5, z6, z7, z8, z9, z10, z11, z12, z13, u8, z15, z16, z17, z18, z19, z20], [ar0, ar1, f9, f10, f11, ar5, ar6, ar7, ar8, ar9, ar10]) [] H := hT
  refine lv_aload_n hx hb dX11_look_34 rfl (lv_at hl 0 rfl) ?_
  refine lv_aload_n hx hb dX11_look_35 rfl (lv_at hl 0 rfl) ?_
  refine lv_iconst (v := 0) hx hb dX11_look_36 (by decide) ?_
  refine x_cl0 (x_runV (b := a) (As := [.int 0]) (rest := [.ref a]) S (c_X11_asks l E K F tl z0 z1 z2 u7 u8 z5 z6 z7 z8 z9 z10 z11 z12 z13 u8 z15 z16 z17 z18 z19 z20 ar0 ar1 f9 f10 f11 ar5 ar6 ar7 ar8 ar9 ar10 a 0 ha hR) mv_X11_asks km_X11_319 rfl rfl ⟨Nat.le_of_ble_eq_true rfl, Nat.le_of_ble_eq_true rfl⟩ (rc_13 hK hT ha) hK (fun _ => XP.blind) (fun U hU hW => XP.at hK hz hS hT hU hW) rfl hl.1 (Nat.le_of_ble_eq_true rfl) dX11_look_37 ⟨Nat.le_of_ble_eq_true rfl, Nat.le_of_ble_eq_true rfl⟩) hS ?_
  rintro _ ⟨u15, u16, f17, f18, f19⟩ H locs ⟨x21, rfl, t20⟩ hT hS
  have hT : TW E K F (tl, [z0, z1, z2, u15, u16, z5, z6, z7, z8, z9, z10, z11, z12, z13, u8, z15, z16, z17, z18, z19, z20], [ar0, ar1, f17, f18, f19, ar5, ar6, ar7, ar8, ar9, ar10]) [] H := hT
  have t20 : 0 ≤ u16.toInt ∧ u16.toInt ≤ 2388 ∧ u16.toInt ≤ (((fV ar1 f18 f19) : Nat) : Int) ∧ (x21.toInt = -1 ∨ (0 ≤ x21.toInt ∧ x21.toInt < u16.toInt)) := t20
  refine pX11_46 (kq := []) (v := x21) S hK hT hS ha kf_X11_322 (Nat.le_of_ble_eq_true rfl) dX11_look_40 (fun _ h => by cases h) (fun H locs hT hS => ?_)
  have hT : TW E K F (tl, [z0, z1, z2, u15, u16, z5, z6, z7, z8, z9, z10, z11, z12, z13, u8, x21, z16, z17, z18, z19, z20], [ar0, ar1, f17, f18, f19, ar5, ar6, ar7, ar8, ar9, ar10]) [] H := hT
  refine lv_aload_n hx hb dX11_look_43 rfl (lv_at hl 0 rfl) ?_
  refine gX11_46 S hK hT ha kf_X11_322 dX11_look_44 (v := x21) rfl ?_
  exact x_ri hx hb hr hlk hQ (Nat.le_of_ble_eq_true rfl) (Nat.le_of_ble_eq_true rfl) hS dX11_look_47 (u15, u16, u8, x21, f17, f18, f19) ⟨_, rfl, (z_X11_look_1 u16.toInt x21.toInt (fV ar1 f18 f19) t20 (xr u16) (xr x21))⟩ hT.nil

abbrev rm_X11_refuses : Room := { frames := 0, cells := 0, slots := 0, locals := 0 }
set_option maxHeartbeats 4000000 in
set_option maxRecDepth 100000 in
theorem c_X11_refuses (l : Launch) (E : XE) (K : Nat → Nat) (F : Nat → Nat → Nat) (tl z0 z1 z2 z3 z4 z5 z6 z7 z8 z9 z10 z11 z12 z13 z14 z15 z16 z17 z18 z19 z20 : Int32) (ar0 ar1 ar2 ar3 ar4 ar5 ar6 ar7 ar8 ar9 ar10 : Nat → Int32) (a : Nat) (p0 : Int32) (ha : K a = 13) : Met l yX11_refuses (xw yX11_refuses cX11_refuses 2 (some .int)) rm_X11_refuses (va_Pc [.ref a, .int p0] (XP E K F (tl, [z0, z1, z2, z3, z4, z5, z6, z7, z8, z9, z10, z11, z12, z13, z14, z15, z16, z17, z18, z19, z20], [ar0, ar1, ar2, ar3, ar4, ar5, ar6, ar7, ar8, ar9, ar10]))) (XQ E (fun v (u : Unit) => ∃ r : Int32, v = .int r) (fun _ H => TW E K F (tl, [z0, z1, z2, z3, z4, z5, z6, z7, z8, z9, z10, z11, z12, z13, z14, z15, z16, z17, z18, z19, z20], [ar0, ar1, ar2, ar3, ar4, ar5, ar6, ar7, ar8, ar9, ar10]) [] H)) 0 0 (xA E) := by
  refine x_enter (by decide) (Nat.le_of_ble_eq_true rfl) ?_
  intro p e s m args below meth c Q S hr hlk hnm hQ hP ls hl
  obtain ⟨hz, hK, hT⟩ := hP
  obtain ⟨hx, hb, -, -, -⟩ := id S
  obtain ⟨H, hT, hS, hgo⟩ : ∃ H : Heap, TW E K F (tl, [z0, z1, z2, z3, z4, z5, z6, z7, z8, z9, z10, z11, z12, z13, z14, z15, z16, z17, z18, z19, z20], [ar0, ar1, ar2, ar3, ar4, ar5, ar6, ar7, ar8, ar9, ar10]) [] H ∧ va_S (xA E) s.heap H [] ∧ H = s.heap := ⟨_, hT, va_S.rf, rfl⟩
  rw [← hgo]
  have hl : lv_has ls 2 [(0, .ref a), (1, .int p0)] := hl
  refine lv_aload_n hx hb dX11_refuses_0 rfl (lv_at hl 0 rfl) ?_
  refine gX11_8 S hK hT ha kf_X11_27 dX11_refuses_1 (fun hk1 => ?_)
  refine lv_iconst (v := 5) hx hb dX11_refuses_4 (by decide) ?_
  refine lv_dup2_11 hx hb dX11_refuses_5 rfl rfl ?_
  refine al_0 S hK hT hk1 ar_35 (by decide) (by decide) dX11_refuses_6 (fun x2 o3 => ?_)
  refine lv_aload_n hx hb dX11_refuses_7 rfl (lv_at hl 0 rfl) ?_
  refine gX11_6 S hK hT ha kf_X11_206 dX11_refuses_8 (v := z1) rfl ?_
  refine xi_zeq (tgt := 18) hx hb (rfl : Int32.toInt z1 = z1.toInt) dX11_refuses_11 (by decide) (fun c4 => ?_) (fun c4 => ?_)
  · refine lv_iconst (v := 0) hx hb dX11_refuses_18 (by decide) ?_
    refine xi_iadd hx hb (rfl : Int32.toInt x2 = x2.toInt) ((by decide) : Int32.toInt 0 = (0 : Int)) dX11_refuses_19 (fun x5 t6 => ?_)
    refine as_0 S hK hT hS hk1 ar_35 aw_35 (by decide) (by decide) dX11_refuses_20 (fun H locs hT hS => ?_)
    refine lv_iload_n hx hb dX11_refuses_21 rfl (lv_at hl 1 rfl) ?_
    exact x_ri hx hb hr hlk hQ (Nat.le_of_ble_eq_true rfl) (Nat.le_of_ble_eq_true rfl) hS dX11_refuses_22 () ⟨_, rfl⟩ hT.nil
  · refine lv_iconst (v := 1) hx hb dX11_refuses_14 (by decide) ?_
    refine lv_goto (tgt := 19) hx hb dX11_refuses_15 (by decide) ?_
    refine xi_iadd hx hb (rfl : Int32.toInt x2 = x2.toInt) ((by decide) : Int32.toInt 1 = (1 : Int)) dX11_refuses_19 (fun x7 t8 => ?_)
    refine as_0 S hK hT hS hk1 ar_35 aw_35 (by decide) (by decide) dX11_refuses_20 (fun H locs hT hS => ?_)
    refine lv_iload_n hx hb dX11_refuses_21 rfl (lv_at hl 1 rfl) ?_
    exact x_ri hx hb hr hlk hQ (Nat.le_of_ble_eq_true rfl) (Nat.le_of_ble_eq_true rfl) hS dX11_refuses_22 () ⟨_, rfl⟩ hT.nil

theorem z_X11_goesBack_1 (a0 : Int) (a1 : Int) (a2 : Nat) (h0 : 0 ≤ a1 ∧ a1 ≤ 2388 ∧ a1 ≤ ((a2 : Nat) : Int)) (h1 : 0 ≤ a0 ∧ a0 < a1) (r0 : -2147483648 ≤ a0 ∧ a0 < 2147483648) (r1 : -2147483648 ≤ a1 ∧ a1 < 2147483648) : 0 ≤ a0 ∧ a0 < ((2400 : Nat) : Int) := by omega
theorem z_X11_goesBack_2 (a0 : Int) (a1 : Int) (a2 : Nat) (h0 : 0 ≤ a1 ∧ a1 ≤ 2388 ∧ a1 ≤ ((a2 : Nat) : Int)) (h1 : 0 ≤ a0 ∧ a0 < a1) (r0 : -2147483648 ≤ a0 ∧ a0 < 2147483648) (r1 : -2147483648 ≤ a1 ∧ a1 < 2147483648) : 0 ≤ a0 ∧ a0 < ((a2 : Nat) : Int) := by omega
theorem z_X11_goesBack_3 (a0 : Int) (a1 : Int) (a2 : Int) (h0 : a0 = a2) (h1 : 0 ≤ a0 ∧ a0 ≤ 11 ∧ 0 ≤ a1) (r0 : -2147483648 ≤ a0 ∧ a0 < 2147483648) : 0 ≤ a0 ∧ a0 ≤ 11 := by omega
theorem z_X11_goesBack_4 (a0 : Int) (a1 : Int) (a2 : Nat) (h0 : 0 ≤ a1 ∧ a1 ≤ 2388 ∧ a1 ≤ ((a2 : Nat) : Int)) (h1 : 0 ≤ a0 ∧ a0 < a1) (r0 : -2147483648 ≤ a0 ∧ a0 < 2147483648) (r1 : -2147483648 ≤ a1 ∧ a1 < 2147483648) : 0 ≤ a0 ∧ a0 < ((2400 : Nat) : Int) := by omega
theorem z_X11_goesBack_5 (a0 : Int) (a1 : Int) (a2 : Nat) (h0 : 0 ≤ a1 ∧ a1 ≤ 2388 ∧ a1 ≤ ((a2 : Nat) : Int)) (h1 : 0 ≤ a0 ∧ a0 < a1) (r0 : -2147483648 ≤ a0 ∧ a0 < 2147483648) (r1 : -2147483648 ≤ a1 ∧ a1 < 2147483648) : 0 ≤ a0 ∧ a0 < ((a2 : Nat) : Int) := by omega
theorem z_X11_goesBack_6 (a0 : Int) (a1 : Int) (a2 : Int) (a3 : Int) (a4 : Int) (a5 : Int) (a6 : Int) (a7 : Int) (h0 : a1 = a6) (h1 : 0 ≤ a1 ∧ a1 ≤ 11 ∧ 0 ≤ a2) (h2 : (-1 ≤ a2 ∧ a2 ≤ 5) ∧ (0 ≤ a3 ∧ a3 ≤ 2) ∧ (0 ≤ a4 ∧ a4 ≤ 2) ∧ (-1 ≤ a5 ∧ a5 ≤ 2) ∧ (a2 = 1 ∨ a2 = 3 ∨ a2 = 4 → 0 ≤ a5)) (h3 : a0 = a7) (h4 : -99 ≤ a0 ∧ a0 ≤ 99 ∧ (a2 = 2 ∨ a2 = 4 ∨ a2 = 5 → 0 ≤ a0 ∧ a0 ≤ 29)) (r0 : -2147483648 ≤ a0 ∧ a0 < 2147483648) (r1 : -2147483648 ≤ a1 ∧ a1 < 2147483648) : 0 ≤ a1 ∧ a1 ≤ 11 := by omega
theorem z_X11_goesBack_7 (a0 : Int) (h0 : 0 ≤ a0 ∧ a0 ≤ 24) (r0 : -2147483648 ≤ a0 ∧ a0 < 2147483648) : 0 ≤ a0 ∧ a0 ≤ 24 := by omega
abbrev rm_X11_goesBack : Room := { frames := 3, cells := 0, slots := 0, locals := 65 }
set_option maxHeartbeats 4000000 in
set_option maxRecDepth 100000 in
theorem c_X11_goesBack (l : Launch) (E : XE) (K : Nat → Nat) (F : Nat → Nat → Nat) (tl z0 z1 z2 z3 z4 z5 z6 z7 z8 z9 z10 z11 z12 z13 z14 z15 z16 z17 z18 z19 z20 : Int32) (ar0 ar1 ar2 ar3 ar4 ar5 ar6 ar7 ar8 ar9 ar10 : Nat → Int32) (a : Nat) (ha : K a = 13) (hR : RV ar1) (e0 : 0 ≤ z4.toInt ∧ z4.toInt ≤ 2388 ∧ z4.toInt ≤ (((fV ar1 ar3 ar4) : Nat) : Int)) (e1 : 0 ≤ z15.toInt ∧ z15.toInt < z4.toInt) : Met l yX11_goesBack (xw yX11_goesBack cX11_goesBack 1 (some .int)) rm_X11_goesBack (va_Pc [.ref a] (XP E K F (tl, [z0, z1, z2, z3, z4, z5, z6, z7, z8, z9, z10, z11, z12, z13, z14, z15, z16, z17, z18, z19, z20], [ar0, ar1, ar2, ar3, ar4, ar5, ar6, ar7, ar8, ar9, ar10]))) (XQ E (fun v (u : Int32 × Int32 × Int32 × (Nat → Int32)) => ∃ r : Int32, v = .int r ∧ (0 ≤ u.2.2.1.toInt ∧ u.2.2.1.toInt ≤ 24)) (fun u H => TW E K F (tl, [z0, z1, z2, z3, z4, u.1, u.2.1, u.2.2.1, z8, z9, z10, z11, z12, z13, z14, z15, z16, z17, z18, z19, z20], [u.2.2.2, ar1, ar2, ar3, ar4, ar5, ar6, ar7, ar8, ar9, ar10]) [] H)) 0 0 (xA E) := by
  refine x_enter (by decide) (Nat.le_of_ble_eq_true rfl) ?_
  intro p e s m args below meth c Q S hr hlk hnm hQ hP ls hl
  obtain ⟨hz, hK, hT⟩ := hP
  obtain ⟨hx, hb, -, -, -⟩ := id S
  obtain ⟨H, hT, hS, hgo⟩ : ∃ H : Heap, TW E K F (tl, [z0, z1, z2, z3, z4, z5, z6, z7, z8, z9, z10, z11, z12, z13, z14, z15, z16, z17, z18, z19, z20], [ar0, ar1, ar2, ar3, ar4, ar5, ar6, ar7, ar8, ar9, ar10]) [] H ∧ va_S (xA E) s.heap H [] ∧ H = s.heap := ⟨_, hT, va_S.rf, rfl⟩
  rw [← hgo]
  have hl : lv_has ls 1 [(0, .ref a)] := hl
  refine lv_aload_n hx hb dX11_goesBack_0 rfl (lv_at hl 0 rfl) ?_
  refine gX11_4 S hK hT ha kf_X11_21 dX11_goesBack_1 (fun hk1 => ?_)
  refine lv_iconst (v := 0) hx hb dX11_goesBack_4 (by decide) ?_
  refine lv_aload_n hx hb dX11_goesBack_5 rfl (lv_at hl 0 rfl) ?_
  refine gX11_1 S hK hT ha kf_X11_9 dX11_goesBack_6 (fun hk2 => ?_)
  refine lv_iconst (v := 0) hx hb dX11_goesBack_9 (by decide) ?_
  refine x_cv0 (x_runS (As := [.ref (F a 4), .int 0, .ref (F a 1), .int 0]) (rest := []) S (c_X11_copy_r l E K F tl z0 z1 z2 z3 z4 z5 z6 z7 z8 z9 z10 z11 z12 z13 z14 z15 z16 z17 z18 z19 z20 ar0 ar1 ar2 ar3 ar4 ar5 ar6 ar7 ar8 ar9 ar10 (F a 4) 0 (F a 1) 0 (XO.b hk1 (by decide)) hk2 (by decide)) ms_X11_copy km_X11_309 rfl rfl ⟨Nat.le_of_ble_eq_true rfl, Nat.le_of_ble_eq_true rfl⟩ hK (fun _ => XP.blind) (fun U hU hW => XP.at hK hz hS hT hU hW) rfl hl.1 (Nat.le_of_ble_eq_true rfl) dX11_goesBack_10 ⟨Nat.le_of_ble_eq_true rfl, Nat.le_of_ble_eq_true rfl⟩) hS ?_
  rintro f3 H locs - hT hS
  have hT : TW E K F (tl, [z0, z1, z2, z3, z4, z5, z6, z7, z8, z9, z10, z11, z12, z13, z14, z15, z16, z17, z18, z19, z20], [f3, ar1, ar2, ar3, ar4, ar5, ar6, ar7, ar8, ar9, ar10]) [] H := hT
  refine lv_aload_n hx hb dX11_goesBack_13 rfl (lv_at hl 0 rfl) ?_
  refine lv_aload_n hx hb dX11_goesBack_14 rfl (lv_at hl 0 rfl) ?_
  refine gX11_17 S hK hT ha kf_X11_51 dX11_goesBack_15 (fun hk6 => ?_)
  refine lv_aload_n hx hb dX11_goesBack_18 rfl (lv_at hl 0 rfl) ?_
  refine gX11_46 S hK hT ha kf_X11_322 dX11_goesBack_19 (v := z15) rfl ?_
  refine tld_0 S hK hT hk6 (at_43 (f := ar3) rfl) (by decide) (z_X11_goesBack_1 z15.toInt z4.toInt (fV ar1 ar3 ar4) e0 e1 (xr z15) (xr z4)) dX11_goesBack_22 (fun x7 w8 o9 => ?_)
  have v11 : 0 ≤ x7.toInt ∧ x7.toInt ≤ 11 ∧ 0 ≤ (aI ar1 (10 * x7.toInt + (0 : Int))) := fV_rule (f4 := ar4) w8 (z_X11_goesBack_2 z15.toInt z4.toInt (fV ar1 ar3 ar4) e0 e1 (xr z15) (xr z4))
  have v12 : (-1 ≤ (aI ar1 (10 * x7.toInt + (0 : Int))) ∧ (aI ar1 (10 * x7.toInt + (0 : Int))) ≤ 5) ∧ (0 ≤ (aI ar1 (10 * x7.toInt + (1 : Int))) ∧ (aI ar1 (10 * x7.toInt + (1 : Int))) ≤ 2) ∧ (0 ≤ (aI ar1 (10 * x7.toInt + (2 : Int))) ∧ (aI ar1 (10 * x7.toInt + (2 : Int))) ≤ 2) ∧ (-1 ≤ (aI ar1 (10 * x7.toInt + (3 : Int))) ∧ (aI ar1 (10 * x7.toInt + (3 : Int))) ≤ 2) ∧ ((aI ar1 (10 * x7.toInt + (0 : Int))) = 1 ∨ (aI ar1 (10 * x7.toInt + (0 : Int))) = 3 ∨ (aI ar1 (10 * x7.toInt + (0 : Int))) = 4 → 0 ≤ (aI ar1 (10 * x7.toInt + (3 : Int)))) := RV.row hR (z_X11_goesBack_3 x7.toInt (aI ar1 (10 * x7.toInt + (0 : Int))) (aI ar3 z15.toInt) w8 v11 (xr x7))
  refine lv_aload_n hx hb dX11_goesBack_23 rfl (lv_at hl 0 rfl) ?_
  refine gX11_18 S hK hT ha kf_X11_54 dX11_goesBack_24 (fun hk13 => ?_)
  refine lv_aload_n hx hb dX11_goesBack_27 rfl (lv_at hl 0 rfl) ?_
  refine gX11_46 S hK hT ha kf_X11_322 dX11_goesBack_28 (v := z15) rfl ?_
  refine tld_0 S hK hT hk13 (at_44 (f := ar4) rfl) (by decide) (z_X11_goesBack_4 z15.toInt z4.toInt (fV ar1 ar3 ar4) e0 e1 (xr z15) (xr z4)) dX11_goesBack_31 (fun x14 w15 o16 => ?_)
  have v18 : -99 ≤ x14.toInt ∧ x14.toInt ≤ 99 ∧ ((aI ar1 (10 * x7.toInt + (0 : Int))) = 2 ∨ (aI ar1 (10 * x7.toInt + (0 : Int))) = 4 ∨ (aI ar1 (10 * x7.toInt + (0 : Int))) = 5 → 0 ≤ x14.toInt ∧ x14.toInt ≤ 29) := fV_sub w8 w15 (z_X11_goesBack_5 z15.toInt z4.toInt (fV ar1 ar3 ar4) e0 e1 (xr z15) (xr z4))
  refine x_cv0 (x_runV (b := a) (As := [.int x7, .int x14]) (rest := []) S (c_X11_failed l E K F tl z0 z1 z2 z3 z4 z5 z6 z7 z8 z9 z10 z11 z12 z13 z14 z15 z16 z17 z18 z19 z20 f3 ar1 ar2 ar3 ar4 ar5 ar6 ar7 ar8 ar9 ar10 a x7 x14 ha (z_X11_goesBack_6 x14.toInt x7.toInt (aI ar1 (10 * x7.toInt + (0 : Int))) (aI ar1 (10 * x7.toInt + (1 : Int))) (aI ar1 (10 * x7.toInt + (2 : Int))) (aI ar1 (10 * x7.toInt + (3 : Int))) (aI ar3 z15.toInt) (aI ar4 z15.toInt) w8 v11 v12 w15 v18 (xr x14) (xr x7))) mv_X11_failed km_X11_299 rfl rfl ⟨Nat.le_of_ble_eq_true rfl, Nat.le_of_ble_eq_true rfl⟩ (rc_13 hK hT ha) hK (fun _ => XP.blind) (fun U hU hW => XP.at hK hz hS hT hU hW) rfl hl.1 (Nat.le_of_ble_eq_true rfl) dX11_goesBack_32 ⟨Nat.le_of_ble_eq_true rfl, Nat.le_of_ble_eq_true rfl⟩) hS ?_
  rintro ⟨u19, u20, u21⟩ H locs t22 hT hS
  have hT : TW E K F (tl, [z0, z1, z2, z3, z4, u19, u20, u21, z8, z9, z10, z11, z12, z13, z14, z15, z16, z17, z18, z19, z20], [f3, ar1, ar2, ar3, ar4, ar5, ar6, ar7, ar8, ar9, ar10]) [] H := hT
  have t22 : 0 ≤ u21.toInt ∧ u21.toInt ≤ 24 := t22
  refine lv_aload_n hx hb dX11_goesBack_35 rfl (lv_at hl 0 rfl) ?_
  refine lv_bipush (v := (-5)) hx hb dX11_goesBack_36 (by decide) ?_
  refine x_cl0 (x_runV (b := a) (As := [.int (-5)]) (rest := []) S (c_X11_refuses l E K F tl z0 z1 z2 z3 z4 u19 u20 u21 z8 z9 z10 z11 z12 z13 z14 z15 z16 z17 z18 z19 z20 f3 ar1 ar2 ar3 ar4 ar5 ar6 ar7 ar8 ar9 ar10 a (-5) ha) mv_X11_refuses km_X11_325 rfl rfl ⟨Nat.le_of_ble_eq_true rfl, Nat.le_of_ble_eq_true rfl⟩ (rc_13 hK hT ha) hK (fun _ => XP.blind) (fun U hU hW => XP.at hK hz hS hT hU hW) rfl hl.1 (Nat.le_of_ble_eq_true rfl) dX11_goesBack_38 ⟨Nat.le_of_ble_eq_true rfl, Nat.le_of_ble_eq_true rfl⟩) hS ?_
  rintro _ _ H locs ⟨x25, rfl⟩ hT hS
  exact x_ri hx hb hr hlk hQ (Nat.le_of_ble_eq_true rfl) (Nat.le_of_ble_eq_true rfl) hS dX11_goesBack_41 (u19, u20, u21, f3) ⟨_, rfl, (z_X11_goesBack_7 u21.toInt t22 (xr u21))⟩ hT.nil

theorem z_X11_moves_1 (a0 : Int) (h0 : (0 : Int) ≤ a0) (r0 : -2147483648 ≤ a0 ∧ a0 < 2147483648) : ¬ (2147483648 - a0 < ((0 : Nat) : Int)) := by omega
theorem z_X11_moves_2 (a0 : Int) (a1 : Int) (a2 : Int) (a3 : Nat) (a4 : Int) (h0 : (0 : Int) ≤ a0) (h1 : 2147483648 - a0 < ((a3 + 1 : Nat) : Int)) (h2 : ¬ ((12 : Int) ≤ a0)) (h3 : a2 = 0 ∨ (a2 = 1 ∧ 0 ≤ a0 ∧ a0 ≤ 11 ∧ 0 ≤ a4)) (h4 : a2 = 0 ∨ a2 = 1) (h5 : a1 = a0 + 1 ∨ a0 + 1 < -2147483648 ∨ 2147483648 ≤ a0 + 1) (r0 : -2147483648 ≤ a0 ∧ a0 < 2147483648) (r1 : -2147483648 ≤ a1 ∧ a1 < 2147483648) (r2 : -2147483648 ≤ a2 ∧ a2 < 2147483648) : (0 : Int) ≤ a1 := by omega
theorem z_X11_moves_3 (a0 : Int) (a1 : Int) (a2 : Int) (a3 : Nat) (a4 : Int) (h0 : (0 : Int) ≤ a0) (h1 : 2147483648 - a0 < ((a3 + 1 : Nat) : Int)) (h2 : ¬ ((12 : Int) ≤ a0)) (h3 : a2 = 0 ∨ (a2 = 1 ∧ 0 ≤ a0 ∧ a0 ≤ 11 ∧ 0 ≤ a4)) (h4 : a2 = 0 ∨ a2 = 1) (h5 : a1 = a0 + 1 ∨ a0 + 1 < -2147483648 ∨ 2147483648 ≤ a0 + 1) (r0 : -2147483648 ≤ a0 ∧ a0 < 2147483648) (r1 : -2147483648 ≤ a1 ∧ a1 < 2147483648) (r2 : -2147483648 ≤ a2 ∧ a2 < 2147483648) : 2147483648 - a1 < ((a3 : Nat) : Int) := by omega
theorem z_X11_moves_4 (a0 : Int) (a1 : Int) (a2 : Nat) (a3 : Int) (h0 : (0 : Int) ≤ a0) (h1 : 2147483648 - a0 < ((a2 + 1 : Nat) : Int)) (h2 : ¬ ((12 : Int) ≤ a0)) (h3 : a1 = 0 ∨ (a1 = 1 ∧ 0 ≤ a0 ∧ a0 ≤ 11 ∧ 0 ≤ a3)) (h4 : a1 = 0 ∨ a1 = 1) (h5 : ¬ (a1 = 0)) (r0 : -2147483648 ≤ a0 ∧ a0 < 2147483648) (r1 : -2147483648 ≤ a1 ∧ a1 < 2147483648) : 0 ≤ a0 ∧ a0 ≤ 11 := by omega
theorem z_X11_moves_5 (a0 : Int) (a1 : Int) (a2 : Nat) (a3 : Int) (h0 : (0 : Int) ≤ a0) (h1 : 2147483648 - a0 < ((a2 + 1 : Nat) : Int)) (h2 : ¬ ((12 : Int) ≤ a0)) (h3 : a1 = 0 ∨ (a1 = 1 ∧ 0 ≤ a0 ∧ a0 ≤ 11 ∧ 0 ≤ a3)) (h4 : a1 = 0 ∨ a1 = 1) (h5 : ¬ (a1 = 0)) (r0 : -2147483648 ≤ a0 ∧ a0 < 2147483648) (r1 : -2147483648 ≤ a1 ∧ a1 < 2147483648) : 0 ≤ a0 ∧ a0 ≤ 11 := by omega
theorem z_X11_moves_6 (a0 : Int) (a1 : Int) (a2 : Nat) (a3 : Int) (a4 : Int) (a5 : Int) (a6 : Int) (h0 : (0 : Int) ≤ a0) (h1 : 2147483648 - a0 < ((a2 + 1 : Nat) : Int)) (h2 : ¬ ((12 : Int) ≤ a0)) (h3 : a1 = 0 ∨ (a1 = 1 ∧ 0 ≤ a0 ∧ a0 ≤ 11 ∧ 0 ≤ a3)) (h4 : a1 = 0 ∨ a1 = 1) (h5 : ¬ (a1 = 0)) (h6 : (-1 ≤ a3 ∧ a3 ≤ 5) ∧ (0 ≤ a4 ∧ a4 ≤ 2) ∧ (0 ≤ a5 ∧ a5 ≤ 2) ∧ (-1 ≤ a6 ∧ a6 ≤ 2) ∧ (a3 = 1 ∨ a3 = 3 ∨ a3 = 4 → 0 ≤ a6)) (r0 : -2147483648 ≤ a0 ∧ a0 < 2147483648) (r1 : -2147483648 ≤ a1 ∧ a1 < 2147483648) : 0 ≤ a0 ∧ a0 ≤ 11 := by omega
theorem z_X11_moves_7 (a0 : Int) (a1 : Int) (a2 : Int) (a3 : Int) (a4 : Nat) (a5 : Int) (a6 : Int) (a7 : Int) (a8 : Int) (h0 : -99 ≤ a2 ∧ a2 ≤ 100 ∧ (a5 = 2 ∨ a5 = 4 ∨ a5 = 5 → 0 ≤ a2 ∧ a2 ≤ 30)) (h1 : (0 : Int) ≤ a0) (h2 : 2147483648 - a0 < ((a4 + 1 : Nat) : Int)) (h3 : ¬ ((12 : Int) ≤ a0)) (h4 : a3 = 0 ∨ (a3 = 1 ∧ 0 ≤ a0 ∧ a0 ≤ 11 ∧ 0 ≤ a5)) (h5 : a3 = 0 ∨ a3 = 1) (h6 : ¬ (a3 = 0)) (h7 : (-1 ≤ a5 ∧ a5 ≤ 5) ∧ (0 ≤ a6 ∧ a6 ≤ 2) ∧ (0 ≤ a7 ∧ a7 ≤ 2) ∧ (-1 ≤ a8 ∧ a8 ≤ 2) ∧ (a5 = 1 ∨ a5 = 3 ∨ a5 = 4 → 0 ≤ a8)) (h8 : ((a5 = 2 ∨ a5 = 4 ∨ a5 = 5) ∧ a1 = 0) ∨ (a5 ≠ 2 ∧ a5 ≠ 4 ∧ a5 ≠ 5 ∧ a1 = -99)) (r0 : -2147483648 ≤ a0 ∧ a0 < 2147483648) (r1 : -2147483648 ≤ a1 ∧ a1 < 2147483648) (r2 : -2147483648 ≤ a2 ∧ a2 < 2147483648) (r3 : -2147483648 ≤ a3 ∧ a3 < 2147483648) : ¬ (2147483648 - a2 < ((0 : Nat) : Int)) := by omega
theorem z_X11_moves_8 (a0 : Int) (a1 : Int) (a2 : Int) (a3 : Int) (a4 : Nat) (a5 : Nat) (a6 : Int) (a7 : Int) (a8 : Int) (a9 : Int) (h0 : (0 : Int) ≤ a0) (h1 : 2147483648 - a0 < ((a5 + 1 : Nat) : Int)) (h2 : ¬ ((12 : Int) ≤ a0)) (h3 : a3 = 0 ∨ (a3 = 1 ∧ 0 ≤ a0 ∧ a0 ≤ 11 ∧ 0 ≤ a6)) (h4 : a3 = 0 ∨ a3 = 1) (h5 : ¬ (a3 = 0)) (h6 : (-1 ≤ a6 ∧ a6 ≤ 5) ∧ (0 ≤ a7 ∧ a7 ≤ 2) ∧ (0 ≤ a8 ∧ a8 ≤ 2) ∧ (-1 ≤ a9 ∧ a9 ≤ 2) ∧ (a6 = 1 ∨ a6 = 3 ∨ a6 = 4 → 0 ≤ a9)) (h7 : ((a6 = 2 ∨ a6 = 4 ∨ a6 = 5) ∧ a1 = 0) ∨ (a6 ≠ 2 ∧ a6 ≠ 4 ∧ a6 ≠ 5 ∧ a1 = -99)) (h8 : -99 ≤ a2 ∧ a2 ≤ 100 ∧ (a6 = 2 ∨ a6 = 4 ∨ a6 = 5 → 0 ≤ a2 ∧ a2 ≤ 30)) (h9 : 2147483648 - a2 < ((a4 + 1 : Nat) : Int)) (r0 : -2147483648 ≤ a0 ∧ a0 < 2147483648) (r1 : -2147483648 ≤ a1 ∧ a1 < 2147483648) (r2 : -2147483648 ≤ a2 ∧ a2 < 2147483648) (r3 : -2147483648 ≤ a3 ∧ a3 < 2147483648) : 0 ≤ a0 ∧ a0 ≤ 11 := by omega
theorem z_X11_moves_9 (a0 : Int) (a1 : Int) (a2 : Int) (a3 : Int) (a4 : Int) (a5 : Int) (a6 : Nat) (a7 : Nat) (a8 : Int) (a9 : Int) (a10 : Int) (a11 : Int) (h0 : (0 : Int) ≤ a0) (h1 : 2147483648 - a0 < ((a7 + 1 : Nat) : Int)) (h2 : ¬ ((12 : Int) ≤ a0)) (h3 : a5 = 0 ∨ (a5 = 1 ∧ 0 ≤ a0 ∧ a0 ≤ 11 ∧ 0 ≤ a8)) (h4 : a5 = 0 ∨ a5 = 1) (h5 : ¬ (a5 = 0)) (h6 : (-1 ≤ a8 ∧ a8 ≤ 5) ∧ (0 ≤ a9 ∧ a9 ≤ 2) ∧ (0 ≤ a10 ∧ a10 ≤ 2) ∧ (-1 ≤ a11 ∧ a11 ≤ 2) ∧ (a8 = 1 ∨ a8 = 3 ∨ a8 = 4 → 0 ≤ a11)) (h7 : ((a8 = 2 ∨ a8 = 4 ∨ a8 = 5) ∧ a1 = 0) ∨ (a8 ≠ 2 ∧ a8 ≠ 4 ∧ a8 ≠ 5 ∧ a1 = -99)) (h8 : -99 ≤ a2 ∧ a2 ≤ 100 ∧ (a8 = 2 ∨ a8 = 4 ∨ a8 = 5 → 0 ≤ a2 ∧ a2 ≤ 30)) (h9 : 2147483648 - a2 < ((a6 + 1 : Nat) : Int)) (h10 : ((a8 = 2 ∨ a8 = 4 ∨ a8 = 5) ∧ a3 = 29) ∨ (a8 ≠ 2 ∧ a8 ≠ 4 ∧ a8 ≠ 5 ∧ a3 = 99)) (h11 : ¬ (a3 < a2)) (h12 : 0 ≤ a0 ∧ a0 ≤ 11 ∧ -99 ≤ a2 ∧ a2 ≤ 99 → a4 = 199 * a0 + a2 + 99) (r0 : -2147483648 ≤ a0 ∧ a0 < 2147483648) (r1 : -2147483648 ≤ a1 ∧ a1 < 2147483648) (r2 : -2147483648 ≤ a2 ∧ a2 < 2147483648) (r3 : -2147483648 ≤ a3 ∧ a3 < 2147483648) (r4 : -2147483648 ≤ a4 ∧ a4 < 2147483648) (r5 : -2147483648 ≤ a5 ∧ a5 < 2147483648) : 0 ≤ a4 ∧ a4 < ((2388 : Nat) : Int) := by omega
theorem z_X11_moves_10 (a0 : Int) (a1 : Int) (a2 : Int) (a3 : Int) (a4 : Int) (a5 : Int) (a6 : Nat) (a7 : Nat) (a8 : Int) (a9 : Int) (a10 : Int) (a11 : Int) (h0 : (0 : Int) ≤ a0) (h1 : 2147483648 - a0 < ((a7 + 1 : Nat) : Int)) (h2 : ¬ ((12 : Int) ≤ a0)) (h3 : a5 = 0 ∨ (a5 = 1 ∧ 0 ≤ a0 ∧ a0 ≤ 11 ∧ 0 ≤ a8)) (h4 : a5 = 0 ∨ a5 = 1) (h5 : ¬ (a5 = 0)) (h6 : (-1 ≤ a8 ∧ a8 ≤ 5) ∧ (0 ≤ a9 ∧ a9 ≤ 2) ∧ (0 ≤ a10 ∧ a10 ≤ 2) ∧ (-1 ≤ a11 ∧ a11 ≤ 2) ∧ (a8 = 1 ∨ a8 = 3 ∨ a8 = 4 → 0 ≤ a11)) (h7 : ((a8 = 2 ∨ a8 = 4 ∨ a8 = 5) ∧ a1 = 0) ∨ (a8 ≠ 2 ∧ a8 ≠ 4 ∧ a8 ≠ 5 ∧ a1 = -99)) (h8 : -99 ≤ a2 ∧ a2 ≤ 100 ∧ (a8 = 2 ∨ a8 = 4 ∨ a8 = 5 → 0 ≤ a2 ∧ a2 ≤ 30)) (h9 : 2147483648 - a2 < ((a6 + 1 : Nat) : Int)) (h10 : ((a8 = 2 ∨ a8 = 4 ∨ a8 = 5) ∧ a3 = 29) ∨ (a8 ≠ 2 ∧ a8 ≠ 4 ∧ a8 ≠ 5 ∧ a3 = 99)) (h11 : ¬ (a3 < a2)) (h12 : 0 ≤ a0 ∧ a0 ≤ 11 ∧ -99 ≤ a2 ∧ a2 ≤ 99 → a4 = 199 * a0 + a2 + 99) (r0 : -2147483648 ≤ a0 ∧ a0 < 2147483648) (r1 : -2147483648 ≤ a1 ∧ a1 < 2147483648) (r2 : -2147483648 ≤ a2 ∧ a2 < 2147483648) (r3 : -2147483648 ≤ a3 ∧ a3 < 2147483648) (r4 : -2147483648 ≤ a4 ∧ a4 < 2147483648) (r5 : -2147483648 ≤ a5 ∧ a5 < 2147483648) : 0 ≤ a4 ∧ a4 < ((2388 : Nat) : Int) := by omega
theorem z_X11_moves_11 (a0 : Int) (a1 : Int) (a2 : Int) (a3 : Int) (a4 : Int) (a5 : Int) (a6 : Nat) (a7 : Nat) (a8 : Int) (a9 : Int) (a10 : Int) (a11 : Int) (h0 : (0 : Int) ≤ a0) (h1 : 2147483648 - a0 < ((a7 + 1 : Nat) : Int)) (h2 : ¬ ((12 : Int) ≤ a0)) (h3 : a5 = 0 ∨ (a5 = 1 ∧ 0 ≤ a0 ∧ a0 ≤ 11 ∧ 0 ≤ a8)) (h4 : a5 = 0 ∨ a5 = 1) (h5 : ¬ (a5 = 0)) (h6 : (-1 ≤ a8 ∧ a8 ≤ 5) ∧ (0 ≤ a9 ∧ a9 ≤ 2) ∧ (0 ≤ a10 ∧ a10 ≤ 2) ∧ (-1 ≤ a11 ∧ a11 ≤ 2) ∧ (a8 = 1 ∨ a8 = 3 ∨ a8 = 4 → 0 ≤ a11)) (h7 : ((a8 = 2 ∨ a8 = 4 ∨ a8 = 5) ∧ a1 = 0) ∨ (a8 ≠ 2 ∧ a8 ≠ 4 ∧ a8 ≠ 5 ∧ a1 = -99)) (h8 : -99 ≤ a2 ∧ a2 ≤ 100 ∧ (a8 = 2 ∨ a8 = 4 ∨ a8 = 5 → 0 ≤ a2 ∧ a2 ≤ 30)) (h9 : 2147483648 - a2 < ((a6 + 1 : Nat) : Int)) (h10 : ((a8 = 2 ∨ a8 = 4 ∨ a8 = 5) ∧ a3 = 29) ∨ (a8 ≠ 2 ∧ a8 ≠ 4 ∧ a8 ≠ 5 ∧ a3 = 99)) (h11 : ¬ (a3 < a2)) (h12 : 0 ≤ a0 ∧ a0 ≤ 11 ∧ -99 ≤ a2 ∧ a2 ≤ 99 → a4 = 199 * a0 + a2 + 99) (r0 : -2147483648 ≤ a0 ∧ a0 < 2147483648) (r1 : -2147483648 ≤ a1 ∧ a1 < 2147483648) (r2 : -2147483648 ≤ a2 ∧ a2 < 2147483648) (r3 : -2147483648 ≤ a3 ∧ a3 < 2147483648) (r4 : -2147483648 ≤ a4 ∧ a4 < 2147483648) (r5 : -2147483648 ≤ a5 ∧ a5 < 2147483648) : 0 ≤ a4 ∧ a4 < ((2388 : Nat) : Int) := by omega
theorem z_X11_moves_12 (a0 : Int) (a1 : Int) (a2 : Int) (a3 : Int) (a4 : Int) (a5 : Int) (a6 : Nat) (a7 : Nat) (a8 : Int) (a9 : Int) (a10 : Int) (a11 : Int) (h0 : (0 : Int) ≤ a0) (h1 : 2147483648 - a0 < ((a7 + 1 : Nat) : Int)) (h2 : ¬ ((12 : Int) ≤ a0)) (h3 : a5 = 0 ∨ (a5 = 1 ∧ 0 ≤ a0 ∧ a0 ≤ 11 ∧ 0 ≤ a8)) (h4 : a5 = 0 ∨ a5 = 1) (h5 : ¬ (a5 = 0)) (h6 : (-1 ≤ a8 ∧ a8 ≤ 5) ∧ (0 ≤ a9 ∧ a9 ≤ 2) ∧ (0 ≤ a10 ∧ a10 ≤ 2) ∧ (-1 ≤ a11 ∧ a11 ≤ 2) ∧ (a8 = 1 ∨ a8 = 3 ∨ a8 = 4 → 0 ≤ a11)) (h7 : ((a8 = 2 ∨ a8 = 4 ∨ a8 = 5) ∧ a1 = 0) ∨ (a8 ≠ 2 ∧ a8 ≠ 4 ∧ a8 ≠ 5 ∧ a1 = -99)) (h8 : -99 ≤ a2 ∧ a2 ≤ 100 ∧ (a8 = 2 ∨ a8 = 4 ∨ a8 = 5 → 0 ≤ a2 ∧ a2 ≤ 30)) (h9 : 2147483648 - a2 < ((a6 + 1 : Nat) : Int)) (h10 : ((a8 = 2 ∨ a8 = 4 ∨ a8 = 5) ∧ a3 = 29) ∨ (a8 ≠ 2 ∧ a8 ≠ 4 ∧ a8 ≠ 5 ∧ a3 = 99)) (h11 : ¬ (a3 < a2)) (h12 : 0 ≤ a0 ∧ a0 ≤ 11 ∧ -99 ≤ a2 ∧ a2 ≤ 99 → a4 = 199 * a0 + a2 + 99) (r0 : -2147483648 ≤ a0 ∧ a0 < 2147483648) (r1 : -2147483648 ≤ a1 ∧ a1 < 2147483648) (r2 : -2147483648 ≤ a2 ∧ a2 < 2147483648) (r3 : -2147483648 ≤ a3 ∧ a3 < 2147483648) (r4 : -2147483648 ≤ a4 ∧ a4 < 2147483648) (r5 : -2147483648 ≤ a5 ∧ a5 < 2147483648) : 0 ≤ a4 ∧ a4 < ((2388 : Nat) : Int) := by omega
theorem z_X11_moves_13 (a0 : Int) (h0 : 0 ≤ a0 ∧ a0 ≤ 3) (r0 : -2147483648 ≤ a0 ∧ a0 < 2147483648) : 0 ≤ a0 ∧ a0 < ((6 : Nat) : Int) := by omega
theorem z_X11_moves_14 (a0 : Int) (h0 : 0 ≤ a0 ∧ a0 ≤ 3) (r0 : -2147483648 ≤ a0 ∧ a0 < 2147483648) : 0 ≤ a0 ∧ a0 < ((6 : Nat) : Int) := by omega
theorem z_X11_moves_15 (a0 : Int) (h0 : 1 ≤ a0 ∧ a0 ≤ 2) (r0 : -2147483648 ≤ a0 ∧ a0 < 2147483648) : 0 ≤ a0 ∧ a0 < ((6 : Nat) : Int) := by omega
theorem z_X11_moves_16 (a0 : Int) (h0 : 1 ≤ a0 ∧ a0 ≤ 2) (r0 : -2147483648 ≤ a0 ∧ a0 < 2147483648) : 0 ≤ a0 ∧ a0 < ((6 : Nat) : Int) := by omega
theorem z_X11_moves_17 (a0 : Int) (a1 : Int) (a2 : Int) (a3 : Int) (a4 : Int) (a5 : Int) (a6 : Int) (a7 : Nat) (a8 : Nat) (a9 : Int) (a10 : Int) (a11 : Int) (a12 : Int) (h0 : (0 : Int) ≤ a0) (h1 : 2147483648 - a0 < ((a8 + 1 : Nat) : Int)) (h2 : ¬ ((12 : Int) ≤ a0)) (h3 : a6 = 0 ∨ (a6 = 1 ∧ 0 ≤ a0 ∧ a0 ≤ 11 ∧ 0 ≤ a9)) (h4 : a6 = 0 ∨ a6 = 1) (h5 : ¬ (a6 = 0)) (h6 : (-1 ≤ a9 ∧ a9 ≤ 5) ∧ (0 ≤ a10 ∧ a10 ≤ 2) ∧ (0 ≤ a11 ∧ a11 ≤ 2) ∧ (-1 ≤ a12 ∧ a12 ≤ 2) ∧ (a9 = 1 ∨ a9 = 3 ∨ a9 = 4 → 0 ≤ a12)) (h7 : ((a9 = 2 ∨ a9 = 4 ∨ a9 = 5) ∧ a1 = 0) ∨ (a9 ≠ 2 ∧ a9 ≠ 4 ∧ a9 ≠ 5 ∧ a1 = -99)) (h8 : -99 ≤ a2 ∧ a2 ≤ 100 ∧ (a9 = 2 ∨ a9 = 4 ∨ a9 = 5 → 0 ≤ a2 ∧ a2 ≤ 30)) (h9 : 2147483648 - a2 < ((a7 + 1 : Nat) : Int)) (h10 : ((a9 = 2 ∨ a9 = 4 ∨ a9 = 5) ∧ a3 = 29) ∨ (a9 ≠ 2 ∧ a9 ≠ 4 ∧ a9 ≠ 5 ∧ a3 = 99)) (h11 : ¬ (a3 < a2)) (h12 : 0 ≤ a0 ∧ a0 ≤ 11 ∧ -99 ≤ a2 ∧ a2 ≤ 99 → a4 = 199 * a0 + a2 + 99) (h13 : a5 = a2 + 1 ∨ a2 + 1 < -2147483648 ∨ 2147483648 ≤ a2 + 1) (r0 : -2147483648 ≤ a0 ∧ a0 < 2147483648) (r1 : -2147483648 ≤ a1 ∧ a1 < 2147483648) (r2 : -2147483648 ≤ a2 ∧ a2 < 2147483648) (r3 : -2147483648 ≤ a3 ∧ a3 < 2147483648) (r4 : -2147483648 ≤ a4 ∧ a4 < 2147483648) (r5 : -2147483648 ≤ a5 ∧ a5 < 2147483648) (r6 : -2147483648 ≤ a6 ∧ a6 < 2147483648) : -99 ≤ a5 ∧ a5 ≤ 100 ∧ (a9 = 2 ∨ a9 = 4 ∨ a9 = 5 → 0 ≤ a5 ∧ a5 ≤ 30) := by omega
theorem z_X11_moves_18 (a0 : Int) (a1 : Int) (a2 : Int) (a3 : Int) (a4 : Int) (a5 : Int) (a6 : Int) (a7 : Nat) (a8 : Nat) (a9 : Int) (a10 : Int) (a11 : Int) (a12 : Int) (h0 : (0 : Int) ≤ a0) (h1 : 2147483648 - a0 < ((a8 + 1 : Nat) : Int)) (h2 : ¬ ((12 : Int) ≤ a0)) (h3 : a6 = 0 ∨ (a6 = 1 ∧ 0 ≤ a0 ∧ a0 ≤ 11 ∧ 0 ≤ a9)) (h4 : a6 = 0 ∨ a6 = 1) (h5 : ¬ (a6 = 0)) (h6 : (-1 ≤ a9 ∧ a9 ≤ 5) ∧ (0 ≤ a10 ∧ a10 ≤ 2) ∧ (0 ≤ a11 ∧ a11 ≤ 2) ∧ (-1 ≤ a12 ∧ a12 ≤ 2) ∧ (a9 = 1 ∨ a9 = 3 ∨ a9 = 4 → 0 ≤ a12)) (h7 : ((a9 = 2 ∨ a9 = 4 ∨ a9 = 5) ∧ a1 = 0) ∨ (a9 ≠ 2 ∧ a9 ≠ 4 ∧ a9 ≠ 5 ∧ a1 = -99)) (h8 : -99 ≤ a2 ∧ a2 ≤ 100 ∧ (a9 = 2 ∨ a9 = 4 ∨ a9 = 5 → 0 ≤ a2 ∧ a2 ≤ 30)) (h9 : 2147483648 - a2 < ((a7 + 1 : Nat) : Int)) (h10 : ((a9 = 2 ∨ a9 = 4 ∨ a9 = 5) ∧ a3 = 29) ∨ (a9 ≠ 2 ∧ a9 ≠ 4 ∧ a9 ≠ 5 ∧ a3 = 99)) (h11 : ¬ (a3 < a2)) (h12 : 0 ≤ a0 ∧ a0 ≤ 11 ∧ -99 ≤ a2 ∧ a2 ≤ 99 → a4 = 199 * a0 + a2 + 99) (h13 : a5 = a2 + 1 ∨ a2 + 1 < -2147483648 ∨ 2147483648 ≤ a2 + 1) (r0 : -2147483648 ≤ a0 ∧ a0 < 2147483648) (r1 : -2147483648 ≤ a1 ∧ a1 < 2147483648) (r2 : -2147483648 ≤ a2 ∧ a2 < 2147483648) (r3 : -2147483648 ≤ a3 ∧ a3 < 2147483648) (r4 : -2147483648 ≤ a4 ∧ a4 < 2147483648) (r5 : -2147483648 ≤ a5 ∧ a5 < 2147483648) (r6 : -2147483648 ≤ a6 ∧ a6 < 2147483648) : 2147483648 - a5 < ((a7 : Nat) : Int) := by omega
theorem z_X11_moves_19 (a0 : Int) (a1 : Int) (a2 : Int) (a3 : Nat) (a4 : Int) (a5 : Int) (a6 : Int) (a7 : Int) (h0 : (0 : Int) ≤ a0) (h1 : 2147483648 - a0 < ((a3 + 1 : Nat) : Int)) (h2 : ¬ ((12 : Int) ≤ a0)) (h3 : a2 = 0 ∨ (a2 = 1 ∧ 0 ≤ a0 ∧ a0 ≤ 11 ∧ 0 ≤ a4)) (h4 : a2 = 0 ∨ a2 = 1) (h5 : ¬ (a2 = 0)) (h6 : (-1 ≤ a4 ∧ a4 ≤ 5) ∧ (0 ≤ a5 ∧ a5 ≤ 2) ∧ (0 ≤ a6 ∧ a6 ≤ 2) ∧ (-1 ≤ a7 ∧ a7 ≤ 2) ∧ (a4 = 1 ∨ a4 = 3 ∨ a4 = 4 → 0 ≤ a7)) (h7 : ((a4 = 2 ∨ a4 = 4 ∨ a4 = 5) ∧ a1 = 0) ∨ (a4 ≠ 2 ∧ a4 ≠ 4 ∧ a4 ≠ 5 ∧ a1 = -99)) (r0 : -2147483648 ≤ a0 ∧ a0 < 2147483648) (r1 : -2147483648 ≤ a1 ∧ a1 < 2147483648) (r2 : -2147483648 ≤ a2 ∧ a2 < 2147483648) : -99 ≤ a1 ∧ a1 ≤ 100 ∧ (a4 = 2 ∨ a4 = 4 ∨ a4 = 5 → 0 ≤ a1 ∧ a1 ≤ 30) := by omega
theorem z_X11_moves_20 (a0 : Int) (a1 : Int) (a2 : Int) (a3 : Nat) (a4 : Int) (a5 : Int) (a6 : Int) (a7 : Int) (h0 : (0 : Int) ≤ a0) (h1 : 2147483648 - a0 < ((a3 + 1 : Nat) : Int)) (h2 : ¬ ((12 : Int) ≤ a0)) (h3 : a2 = 0 ∨ (a2 = 1 ∧ 0 ≤ a0 ∧ a0 ≤ 11 ∧ 0 ≤ a4)) (h4 : a2 = 0 ∨ a2 = 1) (h5 : ¬ (a2 = 0)) (h6 : (-1 ≤ a4 ∧ a4 ≤ 5) ∧ (0 ≤ a5 ∧ a5 ≤ 2) ∧ (0 ≤ a6 ∧ a6 ≤ 2) ∧ (-1 ≤ a7 ∧ a7 ≤ 2) ∧ (a4 = 1 ∨ a4 = 3 ∨ a4 = 4 → 0 ≤ a7)) (h7 : ((a4 = 2 ∨ a4 = 4 ∨ a4 = 5) ∧ a1 = 0) ∨ (a4 ≠ 2 ∧ a4 ≠ 4 ∧ a4 ≠ 5 ∧ a1 = -99)) (r0 : -2147483648 ≤ a0 ∧ a0 < 2147483648) (r1 : -2147483648 ≤ a1 ∧ a1 < 2147483648) (r2 : -2147483648 ≤ a2 ∧ a2 < 2147483648) : 2147483648 - a1 < ((4294967297 : Nat) : Int) := by omega
abbrev rm_X11_moves : Room := { frames := 2, cells := 0, slots := 0, locals := 46 }
set_option maxHeartbeats 4000000 in
set_option maxRecDepth 100000 in
theorem c_X11_moves (l : Launch) (E : XE) (K : Nat → Nat) (F : Nat → Nat → Nat) (tl z0 z1 z2 z3 z4 z5 z6 z7 z8 z9 z10 z11 z12 z13 z14 z15 z16 z17 z18 z19 z20 : Int32) (ar0 ar1 ar2 ar3 ar4 ar5 ar6 ar7 ar8 ar9 ar10 : Nat → Int32) (a : Nat) (p0 : Nat) (p1 : Nat) (p2 : Int32) (ha : K a = 13) (hp0 : K p0 = 38) (hp1 : K p1 = 38) (hR : RV ar1) (e0 : 1 ≤ p2.toInt ∧ p2.toInt ≤ 2) : Met l yX11_moves (xw yX11_moves cX11_moves 9 none) rm_X11_moves (va_Pc [.ref a, .ref p0, .ref p1, .int p2] (XP E K F (tl, [z0, z1, z2, z3, z4, z5, z6, z7, z8, z9, z10, z11, z12, z13, z14, z15, z16, z17, z18, z19, z20], [ar0, ar1, ar2, ar3, ar4, ar5, ar6, ar7, ar8, ar9, ar10]))) (XQv E (fun (u : Unit) => True) (fun _ H => TW E K F (tl, [z0, z1, z2, z3, z4, z5, z6, z7, z8, z9, z10, z11, z12, z13, z14, z15, z16, z17, z18, z19, z20], [ar0, ar1, ar2, ar3, ar4, ar5, ar6, ar7, ar8, ar9, ar10]) [] H)) 0 0 (xA E) := by
  refine x_enter (by decide) (Nat.le_of_ble_eq_true rfl) ?_
  intro p e s m args below meth c Q S hr hlk hnm hQ hP ls hl
  obtain ⟨hz, hK, hT⟩ := hP
  obtain ⟨hx, hb, -, -, -⟩ := id S
  obtain ⟨H, hT, hS, hgo⟩ : ∃ H : Heap, TW E K F (tl, [z0, z1, z2, z3, z4, z5, z6, z7, z8, z9, z10, z11, z12, z13, z14, z15, z16, z17, z18, z19, z20], [ar0, ar1, ar2, ar3, ar4, ar5, ar6, ar7, ar8, ar9, ar10]) [] H ∧ va_S (xA E) s.heap H [] ∧ H = s.heap := ⟨_, hT, va_S.rf, rfl⟩
  rw [← hgo]
  have hl : lv_has ls 9 [(0, .ref a), (1, .ref p0), (2, .ref p1), (3, .int p2)] := hl
  refine lv_iconst (v := 0) hx hb dX11_moves_0 (by decide) ?_
  refine lv_istore (lv' := [(4, .int 0), (0, .ref a), (1, .ref p0), (2, .ref p1), (3, .int p2)]) hx hb dX11_moves_1 hl (by decide) rfl (fun ls hl => ?_)
  have L3 : ∀ (N2 : Nat) (x1 : Int32) (H : Heap) (locs : List Loc) (ls : Array Slot), (0 : Int) ≤ x1.toInt → 2147483648 - x1.toInt < ((N2 : Nat) : Int) → TW E K F (tl, [z0, z1, z2, z3, z4, z5, z6, z7, z8, z9, z10, z11, z12, z13, z14, z15, z16, z17, z18, z19, z20], [ar0, ar1, ar2, ar3, ar4, ar5, ar6, ar7, ar8, ar9, ar10]) [] H → va_S (xA E) s.heap H locs → lv_has ls 9 [(0, .ref a), (1, .ref p0), (2, .ref p1), (3, .int p2), (4, .int x1)] → W p l e rm_X11_moves s m args below meth c H locs 0 0 Q (F0 m 3 ls []) := by
    intro N2
    induction N2 with
    | zero =>
      intro x1 H locs ls hf3 hm4
      exact absurd hm4 (z_X11_moves_1 x1.toInt hf3 (xr x1))
    | succ N2 ih5 =>
      intro x1 H locs ls hf3 hm4 hT hS hl
      refine lv_iload hx hb dX11_moves_3 (lv_at hl 4 rfl) ?_
      refine lv_bipush (v := 12) hx hb dX11_moves_5 (by decide) ?_
      refine xi_cge (tgt := 170) hx hb (rfl : Int32.toInt x1 = x1.toInt) ((by decide) : Int32.toInt 12 = (12 : Int)) dX11_moves_7 (by decide) (fun c6 => ?_) (fun c6 => ?_)
      · exact x_rv hx hb hr hlk hQ (Nat.le_of_ble_eq_true rfl) (Nat.le_of_ble_eq_true rfl) hS dX11_moves_170 () trivial hT.nil
      · refine lv_aload_n hx hb dX11_moves_10 rfl (lv_at hl 0 rfl) ?_
        refine lv_iload hx hb dX11_moves_11 (lv_at hl 4 rfl) ?_
        refine x_clp (x_runV (b := a) (As := [.int x1]) (rest := []) S (c_X11_isRule l E K F tl z0 z1 z2 z3 z4 z5 z6 z7 z8 z9 z10 z11 z12 z13 z14 z15 z16 z17 z18 z19 z20 ar0 ar1 ar2 ar3 ar4 ar5 ar6 ar7 ar8 ar9 ar10 H a x1 ha hR) mv_X11_isRule km_X11_162 rfl rfl ⟨Nat.le_of_ble_eq_true rfl, Nat.le_of_ble_eq_true rfl⟩ (rc_13 hK hT ha) hK (fun _ => XPh.blind) (fun U hU hW => XPh.at hK hz hS hT hU hW) rfl hl.1 (Nat.le_of_ble_eq_true rfl) dX11_moves_13 ⟨Nat.le_of_ble_eq_true rfl, Nat.le_of_ble_eq_true rfl⟩) hS ?_
        rintro _ _ locs ⟨x8, rfl, b9, t7⟩ hS
        have t7 : x8.toInt = 0 ∨ (x8.toInt = 1 ∧ 0 ≤ x1.toInt ∧ x1.toInt ≤ 11 ∧ 0 ≤ (aI ar1 (10 * x1.toInt + (0 : Int)))) := t7
        have J164 : ∀ (H : Heap) (locs : List Loc) (ls : Array Slot), TW E K F (tl, [z0, z1, z2, z3, z4, z5, z6, z7, z8, z9, z10, z11, z12, z13, z14, z15, z16, z17, z18, z19, z20], [ar0, ar1, ar2, ar3, ar4, ar5, ar6, ar7, ar8, ar9, ar10]) [] H → va_S (xA E) s.heap H locs → lv_has ls 9 [(0, .ref a), (1, .ref p0), (2, .ref p1), (3, .int p2), (4, .int x1)] → W p l e rm_X11_moves s m args below meth c H locs 0 0 Q (F0 m 164 ls []) := by
          intro H locs ls hT hS hl
          refine xi_iinc (n := 1) (lv' := fun z9 => [(4, .int z9), (0, .ref a), (1, .ref p0), (2, .ref p1), (3, .int p2)]) (k := 4) hx hb (rfl : Int32.toInt x1 = x1.toInt) (by decide) dX11_moves_164 hl rfl (by decide) (fun _ => rfl) (fun x10 ls t11 hl => ?_)
          have hl : lv_has ls 9 [(4, .int x10), (0, .ref a), (1, .ref p0), (2, .ref p1), (3, .int p2)] := hl
          refine lv_goto (tgt := 3) hx hb dX11_moves_167 (by decide) ?_
          exact ih5 x10 _ _ _ (z_X11_moves_2 x1.toInt x10.toInt x8.toInt N2 (aI ar1 (10 * x1.toInt + (0 : Int))) hf3 hm4 c6 t7 (xbz b9) t11 (xr x1) (xr x10) (xr x8)) (z_X11_moves_3 x1.toInt x10.toInt x8.toInt N2 (aI ar1 (10 * x1.toInt + (0 : Int))) hf3 hm4 c6 t7 (xbz b9) t11 (xr x1) (xr x10) (xr x8)) hT.nil hS (lv_sub hl [1, 2, 3, 4, 0] rfl)
        refine xi_zeq (tgt := 164) hx hb (rfl : Int32.toInt x8 = x8.toInt) dX11_moves_16 (by decide) (fun c12 => ?_) (fun c12 => ?_)
        · exact J164 _ _ _ hT.nil hS (lv_sub hl [0, 1, 2, 3, 4] rfl)
        · refine lv_aload_n hx hb dX11_moves_19 rfl (lv_at hl 0 rfl) ?_
          refine lv_iload hx hb dX11_moves_20 (lv_at hl 4 rfl) ?_
          refine lv_bipush (v := 6) hx hb dX11_moves_22 (by decide) ?_
          refine x_clp (x_runV (b := a) (As := [.int x1, .int 6]) (rest := []) S (c_X11_of l E K F tl z0 z1 z2 z3 z4 z5 z6 z7 z8 z9 z10 z11 z12 z13 z14 z15 z16 z17 z18 z19 z20 ar0 ar1 ar2 ar3 ar4 ar5 ar6 ar7 ar8 ar9 ar10 H a x1 6 ha (z_X11_moves_4 x1.toInt x8.toInt N2 (aI ar1 (10 * x1.toInt + (0 : Int))) hf3 hm4 c6 t7 (xbz b9) c12 (xr x1) (xr x8)) (by decide)) mv_X11_of km_X11_165 rfl rfl ⟨Nat.le_of_ble_eq_true rfl, Nat.le_of_ble_eq_true rfl⟩ (rc_13 hK hT ha) hK (fun _ => XPh.blind) (fun U hU hW => XPh.at hK hz hS hT hU hW) rfl hl.1 (Nat.le_of_ble_eq_true rfl) dX11_moves_24 ⟨Nat.le_of_ble_eq_true rfl, Nat.le_of_ble_eq_true rfl⟩) hS ?_
          rintro _ _ locs ⟨x14, rfl, t13⟩ hS
          have t13 : x14.toInt = (aI ar1 (10 * x1.toInt + (6 : Int))) := t13
          have v16 : (-1 ≤ (aI ar1 (10 * x1.toInt + (0 : Int))) ∧ (aI ar1 (10 * x1.toInt + (0 : Int))) ≤ 5) ∧ (0 ≤ (aI ar1 (10 * x1.toInt + (1 : Int))) ∧ (aI ar1 (10 * x1.toInt + (1 : Int))) ≤ 2) ∧ (0 ≤ (aI ar1 (10 * x1.toInt + (2 : Int))) ∧ (aI ar1 (10 * x1.toInt + (2 : Int))) ≤ 2) ∧ (-1 ≤ (aI ar1 (10 * x1.toInt + (3 : Int))) ∧ (aI ar1 (10 * x1.toInt + (3 : Int))) ≤ 2) ∧ ((aI ar1 (10 * x1.toInt + (0 : Int))) = 1 ∨ (aI ar1 (10 * x1.toInt + (0 : Int))) = 3 ∨ (aI ar1 (10 * x1.toInt + (0 : Int))) = 4 → 0 ≤ (aI ar1 (10 * x1.toInt + (3 : Int)))) := RV.row hR (z_X11_moves_5 x1.toInt x8.toInt N2 (aI ar1 (10 * x1.toInt + (0 : Int))) hf3 hm4 c6 t7 (xbz b9) c12 (xr x1) (xr x8))
          refine lv_iconst (v := 1) hx hb dX11_moves_27 (by decide) ?_
          refine xi_cne (tgt := 164) hx hb (rfl : Int32.toInt x14 = x14.toInt) ((by decide) : Int32.toInt 1 = (1 : Int)) dX11_moves_28 (by decide) (fun c17 => ?_) (fun c17 => ?_)
          · exact J164 _ _ _ hT.nil hS (lv_sub hl [0, 1, 2, 3, 4] rfl)
          · refine lv_aload_n hx hb dX11_moves_31 rfl (lv_at hl 0 rfl) ?_
            refine lv_iload hx hb dX11_moves_32 (lv_at hl 4 rfl) ?_
            refine x_clp (x_runV (b := a) (As := [.int x1]) (rest := []) S (c_X11_firstSubject l E K F tl z0 z1 z2 z3 z4 z5 z6 z7 z8 z9 z10 z11 z12 z13 z14 z15 z16 z17 z18 z19 z20 ar0 ar1 ar2 ar3 ar4 ar5 ar6 ar7 ar8 ar9 ar10 H a x1 ha hR (z_X11_moves_6 x1.toInt x8.toInt N2 (aI ar1 (10 * x1.toInt + (0 : Int))) (aI ar1 (10 * x1.toInt + (1 : Int))) (aI ar1 (10 * x1.toInt + (2 : Int))) (aI ar1 (10 * x1.toInt + (3 : Int))) hf3 hm4 c6 t7 (xbz b9) c12 v16 (xr x1) (xr x8))) mv_X11_firstSubject km_X11_179 rfl rfl ⟨Nat.le_of_ble_eq_true rfl, Nat.le_of_ble_eq_true rfl⟩ (rc_13 hK hT ha) hK (fun _ => XPh.blind) (fun U hU hW => XPh.at hK hz hS hT hU hW) rfl hl.1 (Nat.le_of_ble_eq_true rfl) dX11_moves_34 ⟨Nat.le_of_ble_eq_true rfl, Nat.le_of_ble_eq_true rfl⟩) hS ?_
            rintro _ _ locs ⟨x19, rfl, t18⟩ hS
            have t18 : (((aI ar1 (10 * x1.toInt + (0 : Int))) = 2 ∨ (aI ar1 (10 * x1.toInt + (0 : Int))) = 4 ∨ (aI ar1 (10 * x1.toInt + (0 : Int))) = 5) ∧ x19.toInt = 0) ∨ ((aI ar1 (10 * x1.toInt + (0 : Int))) ≠ 2 ∧ (aI ar1 (10 * x1.toInt + (0 : Int))) ≠ 4 ∧ (aI ar1 (10 * x1.toInt + (0 : Int))) ≠ 5 ∧ x19.toInt = -99) := t18
            refine lv_istore (lv' := [(5, .int x19), (0, .ref a), (1, .ref p0), (2, .ref p1), (3, .int p2), (4, .int x1)]) hx hb dX11_moves_37 hl (by decide) rfl (fun ls hl => ?_)
            have L39 : ∀ (N22 : Nat) (x21 : Int32) (H : Heap) (locs : List Loc) (ls : Array Slot), -99 ≤ x21.toInt ∧ x21.toInt ≤ 100 ∧ ((aI ar1 (10 * x1.toInt + (0 : Int))) = 2 ∨ (aI ar1 (10 * x1.toInt + (0 : Int))) = 4 ∨ (aI ar1 (10 * x1.toInt + (0 : Int))) = 5 → 0 ≤ x21.toInt ∧ x21.toInt ≤ 30) → 2147483648 - x21.toInt < ((N22 : Nat) : Int) → TW E K F (tl, [z0, z1, z2, z3, z4, z5, z6, z7, z8, z9, z10, z11, z12, z13, z14, z15, z16, z17, z18, z19, z20], [ar0, ar1, ar2, ar3, ar4, ar5, ar6, ar7, ar8, ar9, ar10]) [] H → va_S (xA E) s.heap H locs → lv_has ls 9 [(0, .ref a), (1, .ref p0), (2, .ref p1), (3, .int p2), (4, .int x1), (5, .int x21)] → W p l e rm_X11_moves s m args below meth c H locs 0 0 Q (F0 m 39 ls []) := by
              intro N22
              induction N22 with
              | zero =>
                intro x21 H locs ls hf23 hm24
                exact absurd hm24 (z_X11_moves_7 x1.toInt x19.toInt x21.toInt x8.toInt N2 (aI ar1 (10 * x1.toInt + (0 : Int))) (aI ar1 (10 * x1.toInt + (1 : Int))) (aI ar1 (10 * x1.toInt + (2 : Int))) (aI ar1 (10 * x1.toInt + (3 : Int))) hf23 hf3 hm4 c6 t7 (xbz b9) c12 v16 t18 (xr x1) (xr x19) (xr x21) (xr x8))
              | succ N22 ih25 =>
                intro x21 H locs ls hf23 hm24 hT hS hl
                refine lv_iload hx hb dX11_moves_39 (lv_at hl 5 rfl) ?_
                refine lv_aload_n hx hb dX11_moves_41 rfl (lv_at hl 0 rfl) ?_
                refine lv_iload hx hb dX11_moves_42 (lv_at hl 4 rfl) ?_
                refine x_clp (x_runV (b := a) (As := [.int x1]) (rest := [.int x21]) S (c_X11_lastSubject l E K F tl z0 z1 z2 z3 z4 z5 z6 z7 z8 z9 z10 z11 z12 z13 z14 z15 z16 z17 z18 z19 z20 ar0 ar1 ar2 ar3 ar4 ar5 ar6 ar7 ar8 ar9 ar10 H a x1 ha hR (z_X11_moves_8 x1.toInt x19.toInt x21.toInt x8.toInt N22 N2 (aI ar1 (10 * x1.toInt + (0 : Int))) (aI ar1 (10 * x1.toInt + (1 : Int))) (aI ar1 (10 * x1.toInt + (2 : Int))) (aI ar1 (10 * x1.toInt + (3 : Int))) hf3 hm4 c6 t7 (xbz b9) c12 v16 t18 hf23 hm24 (xr x1) (xr x19) (xr x21) (xr x8))) mv_X11_lastSubject km_X11_183 rfl rfl ⟨Nat.le_of_ble_eq_true rfl, Nat.le_of_ble_eq_true rfl⟩ (rc_13 hK hT ha) hK (fun _ => XPh.blind) (fun U hU hW => XPh.at hK hz hS hT hU hW) rfl hl.1 (Nat.le_of_ble_eq_true rfl) dX11_moves_44 ⟨Nat.le_of_ble_eq_true rfl, Nat.le_of_ble_eq_true rfl⟩) hS ?_
                rintro _ _ locs ⟨x27, rfl, t26⟩ hS
                have t26 : (((aI ar1 (10 * x1.toInt + (0 : Int))) = 2 ∨ (aI ar1 (10 * x1.toInt + (0 : Int))) = 4 ∨ (aI ar1 (10 * x1.toInt + (0 : Int))) = 5) ∧ x27.toInt = 29) ∨ ((aI ar1 (10 * x1.toInt + (0 : Int))) ≠ 2 ∧ (aI ar1 (10 * x1.toInt + (0 : Int))) ≠ 4 ∧ (aI ar1 (10 * x1.toInt + (0 : Int))) ≠ 5 ∧ x27.toInt = 99) := t26
                refine xi_cgt (tgt := 164) hx hb (rfl : Int32.toInt x21 = x21.toInt) (rfl : Int32.toInt x27 = x27.toInt) dX11_moves_47 (by decide) (fun c29 => ?_) (fun c29 => ?_)
                · exact J164 _ _ _ hT.nil hS (lv_sub hl [0, 1, 2, 3, 4] rfl)
                · refine lv_iload hx hb dX11_moves_50 (lv_at hl 4 rfl) ?_
                  refine lv_iload hx hb dX11_moves_52 (lv_at hl 5 rfl) ?_
                  refine x_clp (x_runS (As := [.int x1, .int x21]) (rest := []) S (c_X11_placeOf l E K F tl z0 z1 z2 z3 z4 z5 z6 z7 z8 z9 z10 z11 z12 z13 z14 z15 z16 z17 z18 z19 z20 ar0 ar1 ar2 ar3 ar4 ar5 ar6 ar7 ar8 ar9 ar10 H x1 x21) ms_X11_placeOf km_X11_186 rfl rfl ⟨Nat.le_of_ble_eq_true rfl, Nat.le_of_ble_eq_true rfl⟩ hK (fun _ => XPh.blind) (fun U hU hW => XPh.at hK hz hS hT hU hW) rfl hl.1 (Nat.le_of_ble_eq_true rfl) dX11_moves_54 ⟨Nat.le_of_ble_eq_true rfl, Nat.le_of_ble_eq_true rfl⟩) hS ?_
                  rintro _ _ locs ⟨x31, rfl, t30⟩ hS
                  have t30 : 0 ≤ x1.toInt ∧ x1.toInt ≤ 11 ∧ -99 ≤ x21.toInt ∧ x21.toInt ≤ 99 → x31.toInt = 199 * x1.toInt + x21.toInt + 99 := t30
                  refine lv_istore (lv' := [(6, .int x31), (0, .ref a), (1, .ref p0), (2, .ref p1), (3, .int p2), (4, .int x1), (5, .int x21)]) hx hb dX11_moves_57 hl (by decide) rfl (fun ls hl => ?_)
                  refine lv_aload_n hx hb dX11_moves_59 rfl (lv_at hl 2 rfl) ?_
                  refine lv_iload hx hb dX11_moves_60 (lv_at hl 0 rfl) ?_
                  refine al_0 S hK hT hp0 ar_38 (by decide) (z_X11_moves_9 x1.toInt x19.toInt x21.toInt x27.toInt x31.toInt x8.toInt N22 N2 (aI ar1 (10 * x1.toInt + (0 : Int))) (aI ar1 (10 * x1.toInt + (1 : Int))) (aI ar1 (10 * x1.toInt + (2 : Int))) (aI ar1 (10 * x1.toInt + (3 : Int))) hf3 hm4 c6 t7 (xbz b9) c12 v16 t18 hf23 hm24 t26 c29 t30 (xr x1) (xr x19) (xr x21) (xr x27) (xr x31) (xr x8)) dX11_moves_62 (fun x33 o34 => ?_)
                  refine lv_aload_n hx hb dX11_moves_63 rfl (lv_at hl 1 rfl) ?_
                  refine gX11_13 S hK hT ha kf_X11_42 dX11_moves_64 (fun hk35 => ?_)
                  refine lv_iload hx hb dX11_moves_67 (lv_at hl 0 rfl) ?_
                  refine al_0 S hK hT hk35 ar_38 (by decide) (z_X11_moves_10 x1.toInt x19.toInt x21.toInt x27.toInt x31.toInt x8.toInt N22 N2 (aI ar1 (10 * x1.toInt + (0 : Int))) (aI ar1 (10 * x1.toInt + (1 : Int))) (aI ar1 (10 * x1.toInt + (2 : Int))) (aI ar1 (10 * x1.toInt + (3 : Int))) hf3 hm4 c6 t7 (xbz b9) c12 v16 t18 hf23 hm24 t26 c29 t30 (xr x1) (xr x19) (xr x21) (xr x27) (xr x31) (xr x8)) dX11_moves_69 (fun x36 o37 => ?_)
                  have J78 : ∀ (x38 : Int32) (H : Heap) (locs : List Loc) (ls : Array Slot), TW E K F (tl, [z0, z1, z2, z3, z4, z5, z6, z7, z8, z9, z10, z11, z12, z13, z14, z15, z16, z17, z18, z19, z20], [ar0, ar1, ar2, ar3, ar4, ar5, ar6, ar7, ar8, ar9, ar10]) [] H → va_S (xA E) s.heap H locs → lv_has ls 9 [(0, .ref a), (1, .ref p0), (2, .ref p1), (3, .int p2), (4, .int x1), (5, .int x21), (6, .int x31)] → W p l e rm_X11_moves s m args below meth c H locs 0 0 Q (F0 m 78 ls [.int x38]) := by
                    intro x38 H locs ls hT hS hl
                    refine lv_istore (lv' := [(7, .int x38), (0, .ref a), (1, .ref p0), (2, .ref p1), (3, .int p2), (4, .int x1), (5, .int x21), (6, .int x31)]) hx hb dX11_moves_78 hl (by decide) rfl (fun ls hl => ?_)
                    refine lv_aload_n hx hb dX11_moves_80 rfl (lv_at hl 3 rfl) ?_
                    refine lv_iload hx hb dX11_moves_81 (lv_at hl 7 rfl) ?_
                    refine al_0 S hK hT hp1 ar_38 (by decide) (z_X11_moves_11 x1.toInt x19.toInt x21.toInt x27.toInt x31.toInt x8.toInt N22 N2 (aI ar1 (10 * x1.toInt + (0 : Int))) (aI ar1 (10 * x1.toInt + (1 : Int))) (aI ar1 (10 * x1.toInt + (2 : Int))) (aI ar1 (10 * x1.toInt + (3 : Int))) hf3 hm4 c6 t7 (xbz b9) c12 v16 t18 hf23 hm24 t26 c29 t30 (xr x1) (xr x19) (xr x21) (xr x27) (xr x31) (xr x8)) dX11_moves_83 (fun x39 o40 => ?_)
                    refine lv_aload_n hx hb dX11_moves_84 rfl (lv_at hl 1 rfl) ?_
                    refine gX11_13 S hK hT ha kf_X11_42 dX11_moves_85 (fun hk41 => ?_)
                    refine lv_iload hx hb dX11_moves_88 (lv_at hl 7 rfl) ?_
                    refine al_0 S hK hT hk41 ar_38 (by decide) (z_X11_moves_12 x1.toInt x19.toInt x21.toInt x27.toInt x31.toInt x8.toInt N22 N2 (aI ar1 (10 * x1.toInt + (0 : Int))) (aI ar1 (10 * x1.toInt + (1 : Int))) (aI ar1 (10 * x1.toInt + (2 : Int))) (aI ar1 (10 * x1.toInt + (3 : Int))) hf3 hm4 c6 t7 (xbz b9) c12 v16 t18 hf23 hm24 t26 c29 t30 (xr x1) (xr x19) (xr x21) (xr x27) (xr x31) (xr x8)) dX11_moves_90 (fun x42 o43 => ?_)
                    have J99 : ∀ (x44 : Int32) (H : Heap) (locs : List Loc) (ls : Array Slot), TW E K F (tl, [z0, z1, z2, z3, z4, z5, z6, z7, z8, z9, z10, z11, z12, z13, z14, z15, z16, z17, z18, z19, z20], [ar0, ar1, ar2, ar3, ar4, ar5, ar6, ar7, ar8, ar9, ar10]) [] H → va_S (xA E) s.heap H locs → lv_has ls 9 [(0, .ref a), (1, .ref p0), (2, .ref p1), (3, .int p2), (4, .int x1), (5, .int x21), (7, .int x38)] → W p l e rm_X11_moves s m args below meth c H locs 0 0 Q (F0 m 99 ls [.int x44]) := by
                      intro x44 H locs ls hT hS hl
                      refine lv_istore (lv' := [(8, .int x44), (0, .ref a), (1, .ref p0), (2, .ref p1), (3, .int p2), (4, .int x1), (5, .int x21), (7, .int x38)]) hx hb dX11_moves_99 hl (by decide) rfl (fun ls hl => ?_)
                      refine lv_aload_n hx hb dX11_moves_101 rfl (lv_at hl 1 rfl) ?_
                      refine gX11_8 S hK hT ha kf_X11_27 dX11_moves_102 (fun hk45 => ?_)
                      refine lv_iload_n hx hb dX11_moves_105 rfl (lv_at hl 4 rfl) ?_
                      refine lv_iconst (v := 1) hx hb dX11_moves_106 (by decide) ?_
                      have J115 : ∀ (x46 : Int32) (H : Heap) (locs : List Loc) (ls : Array Slot), 0 ≤ x46.toInt ∧ x46.toInt ≤ 3 → TW E K F (tl, [z0, z1, z2, z3, z4, z5, z6, z7, z8, z9, z10, z11, z12, z13, z14, z15, z16, z17, z18, z19, z20], [ar0, ar1, ar2, ar3, ar4, ar5, ar6, ar7, ar8, ar9, ar10]) [] H → va_S (xA E) s.heap H locs → lv_has ls 9 [(0, .ref a), (1, .ref p0), (2, .ref p1), (3, .int p2), (4, .int x1), (5, .int x21), (7, .int x38), (8, .int x44)] → W p l e rm_X11_moves s m args below meth c H locs 0 0 Q (F0 m 115 ls [.int x46, .ref (F a 8)]) := by
                        intro x46 H locs ls hf47 hT hS hl
                        refine lv_dup2_11 hx hb dX11_moves_115 rfl rfl ?_
                        refine al_0 S hK hT hk45 ar_35 (by decide) (z_X11_moves_13 x46.toInt hf47 (xr x46)) dX11_moves_116 (fun x48 o49 => ?_)
                        refine lv_iload hx hb dX11_moves_117 (lv_at hl 7 rfl) ?_
                        have J132 : ∀ (x50 : Int32) (H : Heap) (locs : List Loc) (ls : Array Slot), TW E K F (tl, [z0, z1, z2, z3, z4, z5, z6, z7, z8, z9, z10, z11, z12, z13, z14, z15, z16, z17, z18, z19, z20], [ar0, ar1, ar2, ar3, ar4, ar5, ar6, ar7, ar8, ar9, ar10]) [] H → va_S (xA E) s.heap H locs → lv_has ls 9 [(0, .ref a), (1, .ref p0), (2, .ref p1), (3, .int p2), (4, .int x1), (5, .int x21), (7, .int x38), (8, .int x44)] → W p l e rm_X11_moves s m args below meth c H locs 0 0 Q (F0 m 132 ls [.int x50, .int x48, .int x46, .ref (F a 8)]) := by
                          intro x50 H locs ls hT hS hl
                          refine xi_iadd hx hb (rfl : Int32.toInt x48 = x48.toInt) (rfl : Int32.toInt x50 = x50.toInt) dX11_moves_132 (fun x51 t52 => ?_)
                          refine as_0 S hK hT hS hk45 ar_35 aw_35 (by decide) (z_X11_moves_14 x46.toInt hf47 (xr x46)) dX11_moves_133 (fun H locs hT hS => ?_)
                          refine lv_aload_n hx hb dX11_moves_134 rfl (lv_at hl 0 rfl) ?_
                          refine gX11_8 S hK hT ha kf_X11_27 dX11_moves_135 (fun hk53 => ?_)
                          refine lv_iload_n hx hb dX11_moves_138 rfl (lv_at hl 3 rfl) ?_
                          refine lv_dup2_11 hx hb dX11_moves_139 rfl rfl ?_
                          refine al_0 S hK hT hk53 ar_35 (by decide) (z_X11_moves_15 p2.toInt e0 (xr p2)) dX11_moves_140 (fun x54 o55 => ?_)
                          refine lv_iload hx hb dX11_moves_141 (lv_at hl 6 rfl) ?_
                          have J156 : ∀ (x56 : Int32) (H : Heap) (locs : List Loc) (ls : Array Slot), TW E K F (tl, [z0, z1, z2, z3, z4, z5, z6, z7, z8, z9, z10, z11, z12, z13, z14, z15, z16, z17, z18, z19, z20], [ar0, ar1, ar2, ar3, ar4, ar5, ar6, ar7, ar8, ar9, ar10]) [] H → va_S (xA E) s.heap H locs → lv_has ls 9 [(0, .ref a), (1, .ref p0), (2, .ref p1), (3, .int p2), (4, .int x1), (5, .int x21)] → W p l e rm_X11_moves s m args below meth c H locs 0 0 Q (F0 m 156 ls [.int x56, .int x54, .int p2, .ref (F a 8)]) := by
                            intro x56 H locs ls hT hS hl
                            refine xi_iadd hx hb (rfl : Int32.toInt x54 = x54.toInt) (rfl : Int32.toInt x56 = x56.toInt) dX11_moves_156 (fun x57 t58 => ?_)
                            refine as_0 S hK hT hS hk53 ar_35 aw_35 (by decide) (z_X11_moves_16 p2.toInt e0 (xr p2)) dX11_moves_157 (fun H locs hT hS => ?_)
                            refine xi_iinc (n := 1) (lv' := fun z9 => [(5, .int z9), (0, .ref a), (1, .ref p0), (2, .ref p1), (3, .int p2), (4, .int x1)]) (k := 5) hx hb (rfl : Int32.toInt x21 = x21.toInt) (by decide) dX11_moves_158 hl rfl (by decide) (fun _ => rfl) (fun x59 ls t60 hl => ?_)
                            have hl : lv_has ls 9 [(5, .int x59), (0, .ref a), (1, .ref p0), (2, .ref p1), (3, .int p2), (4, .int x1)] := hl
                            refine lv_goto (tgt := 39) hx hb dX11_moves_161 (by decide) ?_
                            exact ih25 x59 _ _ _ (z_X11_moves_17 x1.toInt x19.toInt x21.toInt x27.toInt x31.toInt x59.toInt x8.toInt N22 N2 (aI ar1 (10 * x1.toInt + (0 : Int))) (aI ar1 (10 * x1.toInt + (1 : Int))) (aI ar1 (10 * x1.toInt + (2 : Int))) (aI ar1 (10 * x1.toInt + (3 : Int))) hf3 hm4 c6 t7 (xbz b9) c12 v16 t18 hf23 hm24 t26 c29 t30 t60 (xr x1) (xr x19) (xr x21) (xr x27) (xr x31) (xr x59) (xr x8)) (z_X11_moves_18 x1.toInt x19.toInt x21.toInt x27.toInt x31.toInt x59.toInt x8.toInt N22 N2 (aI ar1 (10 * x1.toInt + (0 : Int))) (aI ar1 (10 * x1.toInt + (1 : Int))) (aI ar1 (10 * x1.toInt + (2 : Int))) (aI ar1 (10 * x1.toInt + (3 : Int))) hf3 hm4 c6 t7 (xbz b9) c12 v16 t18 hf23 hm24 t26 c29 t30 t60 (xr x1) (xr x19) (xr x21) (xr x27) (xr x31) (xr x59) (xr x8)) hT.nil hS (lv_sub hl [1, 2, 3, 4, 5, 0] rfl)
                          have J155 : ∀ (H : Heap) (locs : List Loc) (ls : Array Slot), TW E K F (tl, [z0, z1, z2, z3, z4, z5, z6, z7, z8, z9, z10, z11, z12, z13, z14, z15, z16, z17, z18, z19, z20], [ar0, ar1, ar2, ar3, ar4, ar5, ar6, ar7, ar8, ar9, ar10]) [] H → va_S (xA E) s.heap H locs → lv_has ls 9 [(0, .ref a), (1, .ref p0), (2, .ref p1), (3, .int p2), (4, .int x1), (5, .int x21)] → W p l e rm_X11_moves s m args below meth c H locs 0 0 Q (F0 m 155 ls [.int x54, .int p2, .ref (F a 8)]) := by
                            intro H locs ls hT hS hl
                            refine lv_iconst (v := 0) hx hb dX11_moves_155 (by decide) ?_
                            exact J156 0 _ _ _ hT.nil hS (lv_sub hl [0, 1, 2, 3, 4, 5] rfl)
                          refine xi_zeq (tgt := 155) hx hb (rfl : Int32.toInt x38 = x38.toInt) dX11_moves_143 (by decide) (fun c61 => ?_) (fun c61 => ?_)
                          · exact J155 _ _ _ hT.nil hS (lv_sub hl [0, 1, 2, 3, 4, 5] rfl)
                          · refine lv_iload hx hb dX11_moves_146 (lv_at hl 7 rfl) ?_
                            refine xi_zne (tgt := 155) hx hb (rfl : Int32.toInt x44 = x44.toInt) dX11_moves_148 (by decide) (fun c62 => ?_) (fun c62 => ?_)
                            · exact J155 _ _ _ hT.nil hS (lv_sub hl [0, 1, 2, 3, 4, 5] rfl)
                            · refine lv_iconst (v := 1) hx hb dX11_moves_151 (by decide) ?_
                              refine lv_goto (tgt := 156) hx hb dX11_moves_152 (by decide) ?_
                              exact J156 1 _ _ _ hT.nil hS (lv_sub hl [0, 1, 2, 3, 4, 5] rfl)
                        have J131 : ∀ (H : Heap) (locs : List Loc) (ls : Array Slot), TW E K F (tl, [z0, z1, z2, z3, z4, z5, z6, z7, z8, z9, z10, z11, z12, z13, z14, z15, z16, z17, z18, z19, z20], [ar0, ar1, ar2, ar3, ar4, ar5, ar6, ar7, ar8, ar9, ar10]) [] H → va_S (xA E) s.heap H locs → lv_has ls 9 [(0, .ref a), (1, .ref p0), (2, .ref p1), (3, .int p2), (4, .int x1), (5, .int x21), (7, .int x38), (8, .int x44)] → W p l e rm_X11_moves s m args below meth c H locs 0 0 Q (F0 m 131 ls [.int x48, .int x46, .ref (F a 8)]) := by
                          intro H locs ls hT hS hl
                          refine lv_iconst (v := 0) hx hb dX11_moves_131 (by decide) ?_
                          exact J132 0 _ _ _ hT.nil hS (lv_sub hl [0, 1, 2, 3, 4, 5, 6, 7] rfl)
                        refine xi_zeq (tgt := 131) hx hb (rfl : Int32.toInt x44 = x44.toInt) dX11_moves_119 (by decide) (fun c63 => ?_) (fun c63 => ?_)
                        · exact J131 _ _ _ hT.nil hS (lv_sub hl [0, 1, 2, 3, 4, 5, 6, 7] rfl)
                        · refine lv_iload hx hb dX11_moves_122 (lv_at hl 6 rfl) ?_
                          refine xi_zne (tgt := 131) hx hb (rfl : Int32.toInt x38 = x38.toInt) dX11_moves_124 (by decide) (fun c64 => ?_) (fun c64 => ?_)
                          · exact J131 _ _ _ hT.nil hS (lv_sub hl [0, 1, 2, 3, 4, 5, 6, 7] rfl)
                          · refine lv_iconst (v := 1) hx hb dX11_moves_127 (by decide) ?_
                            refine lv_goto (tgt := 132) hx hb dX11_moves_128 (by decide) ?_
                            exact J132 1 _ _ _ hT.nil hS (lv_sub hl [0, 1, 2, 3, 4, 5, 6, 7] rfl)
                      refine xi_cne (tgt := 114) hx hb (rfl : Int32.toInt p2 = p2.toInt) ((by decide) : Int32.toInt 1 = (1 : Int)) dX11_moves_107 (by decide) (fun c65 => ?_) (fun c65 => ?_)
                      · refine lv_iconst (v := 3) hx hb dX11_moves_114 (by decide) ?_
                        exact J115 3 _ _ _ (by decide) hT.nil hS (lv_sub hl [1, 2, 3, 4, 5, 6, 7, 0] rfl)
                      · refine lv_iconst (v := 0) hx hb dX11_moves_110 (by decide) ?_
                        refine lv_goto (tgt := 115) hx hb dX11_moves_111 (by decide) ?_
                        exact J115 0 _ _ _ (by decide) hT.nil hS (lv_sub hl [1, 2, 3, 4, 5, 6, 7, 0] rfl)
                    refine xi_ceq (tgt := 98) hx hb (rfl : Int32.toInt x39 = x39.toInt) (rfl : Int32.toInt x42 = x42.toInt) dX11_moves_91 (by decide) (fun c66 => ?_) (fun c66 => ?_)
                    · refine lv_iconst (v := 0) hx hb dX11_moves_98 (by decide) ?_
                      exact J99 0 _ _ _ hT.nil hS (lv_sub hl [1, 2, 3, 4, 5, 6, 0] rfl)
                    · refine lv_iconst (v := 1) hx hb dX11_moves_94 (by decide) ?_
                      refine lv_goto (tgt := 99) hx hb dX11_moves_95 (by decide) ?_
                      exact J99 1 _ _ _ hT.nil hS (lv_sub hl [1, 2, 3, 4, 5, 6, 0] rfl)
                  refine xi_ceq (tgt := 77) hx hb (rfl : Int32.toInt x33 = x33.toInt) (rfl : Int32.toInt x36 = x36.toInt) dX11_moves_70 (by decide) (fun c67 => ?_) (fun c67 => ?_)
                  · refine lv_iconst (v := 0) hx hb dX11_moves_77 (by decide) ?_
                    exact J78 0 _ _ _ hT.nil hS (lv_sub hl [1, 2, 3, 4, 5, 6, 0] rfl)
                  · refine lv_iconst (v := 1) hx hb dX11_moves_73 (by decide) ?_
                    refine lv_goto (tgt := 78) hx hb dX11_moves_74 (by decide) ?_
                    exact J78 1 _ _ _ hT.nil hS (lv_sub hl [1, 2, 3, 4, 5, 6, 0] rfl)
            exact L39 4294967297 x19 _ _ _ (z_X11_moves_19 x1.toInt x19.toInt x8.toInt N2 (aI ar1 (10 * x1.toInt + (0 : Int))) (aI ar1 (10 * x1.toInt + (1 : Int))) (aI ar1 (10 * x1.toInt + (2 : Int))) (aI ar1 (10 * x1.toInt + (3 : Int))) hf3 hm4 c6 t7 (xbz b9) c12 v16 t18 (xr x1) (xr x19) (xr x8)) (z_X11_moves_20 x1.toInt x19.toInt x8.toInt N2 (aI ar1 (10 * x1.toInt + (0 : Int))) (aI ar1 (10 * x1.toInt + (1 : Int))) (aI ar1 (10 * x1.toInt + (2 : Int))) (aI ar1 (10 * x1.toInt + (3 : Int))) hf3 hm4 c6 t7 (xbz b9) c12 v16 t18 (xr x1) (xr x19) (xr x8)) hT.nil hS (lv_sub hl [1, 2, 3, 4, 5, 0] rfl)
  exact L3 4294967297 0 _ _ _ (by decide) (by decide) hT.nil hS (lv_sub hl [1, 2, 3, 4, 0] rfl)

theorem z_X11_takeAsked_1 (a0 : Int) (h0 : (0 : Int) ≤ a0) (r0 : -2147483648 ≤ a0 ∧ a0 < 2147483648) : ¬ (2147483648 - a0 < ((0 : Nat) : Int)) := by omega
theorem z_X11_takeAsked_2 (a0 : Int) (a1 : Int) (a2 : Int) (a3 : Int) (a4 : Int) (a5 : Int) (a6 : Nat) (a7 : Nat) (h0 : 0 ≤ a5 ∧ a5 ≤ 2388 ∧ a5 ≤ ((a7 : Nat) : Int)) (h1 : a4 = -1 ∨ (0 ≤ a4 ∧ a4 < a5)) (h2 : 0 ≤ a0 ∧ a0 ≤ a5) (h3 : (0 : Int) ≤ a3) (h4 : 2147483648 - a3 < ((a6 + 1 : Nat) : Int)) (h5 : a0 ≤ a3) (h6 : a2 = a1 + a0 ∨ a1 + a0 < -2147483648 ∨ 2147483648 ≤ a1 + a0) (r0 : -2147483648 ≤ a0 ∧ a0 < 2147483648) (r1 : -2147483648 ≤ a1 ∧ a1 < 2147483648) (r2 : -2147483648 ≤ a2 ∧ a2 < 2147483648) (r3 : -2147483648 ≤ a3 ∧ a3 < 2147483648) (r4 : -2147483648 ≤ a4 ∧ a4 < 2147483648) (r5 : -2147483648 ≤ a5 ∧ a5 < 2147483648) : 0 ≤ a0 ∧ a0 ≤ 2400 := by omega
theorem z_X11_takeAsked_3 (a0 : Int) (a1 : Int) (a2 : Int) (a3 : Int) (a4 : Nat) (a5 : Nat) (h0 : 0 ≤ a3 ∧ a3 ≤ 2388 ∧ a3 ≤ ((a5 : Nat) : Int)) (h1 : a2 = -1 ∨ (0 ≤ a2 ∧ a2 < a3)) (h2 : 0 ≤ a0 ∧ a0 ≤ a3) (h3 : (0 : Int) ≤ a1) (h4 : 2147483648 - a1 < ((a4 + 1 : Nat) : Int)) (h5 : ¬ (a0 ≤ a1)) (r0 : -2147483648 ≤ a0 ∧ a0 < 2147483648) (r1 : -2147483648 ≤ a1 ∧ a1 < 2147483648) (r2 : -2147483648 ≤ a2 ∧ a2 < 2147483648) (r3 : -2147483648 ≤ a3 ∧ a3 < 2147483648) : 0 ≤ a1 ∧ a1 < ((2400 : Nat) : Int) := by omega
theorem z_X11_takeAsked_4 (a0 : Int) (a1 : Int) (a2 : Int) (a3 : Int) (a4 : Nat) (a5 : Nat) (h0 : 0 ≤ a3 ∧ a3 ≤ 2388 ∧ a3 ≤ ((a5 : Nat) : Int)) (h1 : a2 = -1 ∨ (0 ≤ a2 ∧ a2 < a3)) (h2 : 0 ≤ a0 ∧ a0 ≤ a3) (h3 : (0 : Int) ≤ a1) (h4 : 2147483648 - a1 < ((a4 + 1 : Nat) : Int)) (h5 : ¬ (a0 ≤ a1)) (r0 : -2147483648 ≤ a0 ∧ a0 < 2147483648) (r1 : -2147483648 ≤ a1 ∧ a1 < 2147483648) (r2 : -2147483648 ≤ a2 ∧ a2 < 2147483648) (r3 : -2147483648 ≤ a3 ∧ a3 < 2147483648) : 0 ≤ a1 ∧ a1 < ((a5 : Nat) : Int) := by omega
theorem z_X11_takeAsked_5 (a0 : Int) (a1 : Int) (a2 : Int) (h0 : a0 = a2) (h1 : 0 ≤ a0 ∧ a0 ≤ 11 ∧ 0 ≤ a1) (r0 : -2147483648 ≤ a0 ∧ a0 < 2147483648) : 0 ≤ a0 ∧ a0 ≤ 11 := by omega
theorem z_X11_takeAsked_6 (a0 : Int) (a1 : Int) (a2 : Int) (a3 : Int) (a4 : Nat) (a5 : Nat) (h0 : 0 ≤ a3 ∧ a3 ≤ 2388 ∧ a3 ≤ ((a5 : Nat) : Int)) (h1 : a2 = -1 ∨ (0 ≤ a2 ∧ a2 < a3)) (h2 : 0 ≤ a0 ∧ a0 ≤ a3) (h3 : (0 : Int) ≤ a1) (h4 : 2147483648 - a1 < ((a4 + 1 : Nat) : Int)) (h5 : ¬ (a0 ≤ a1)) (r0 : -2147483648 ≤ a0 ∧ a0 < 2147483648) (r1 : -2147483648 ≤ a1 ∧ a1 < 2147483648) (r2 : -2147483648 ≤ a2 ∧ a2 < 2147483648) (r3 : -2147483648 ≤ a3 ∧ a3 < 2147483648) : 0 ≤ a1 ∧ a1 < ((2400 : Nat) : Int) := by omega
theorem z_X11_takeAsked_7 (a0 : Int) (a1 : Int) (a2 : Int) (a3 : Int) (a4 : Nat) (a5 : Nat) (h0 : 0 ≤ a3 ∧ a3 ≤ 2388 ∧ a3 ≤ ((a5 : Nat) : Int)) (h1 : a2 = -1 ∨ (0 ≤ a2 ∧ a2 < a3)) (h2 : 0 ≤ a0 ∧ a0 ≤ a3) (h3 : (0 : Int) ≤ a1) (h4 : 2147483648 - a1 < ((a4 + 1 : Nat) : Int)) (h5 : ¬ (a0 ≤ a1)) (r0 : -2147483648 ≤ a0 ∧ a0 < 2147483648) (r1 : -2147483648 ≤ a1 ∧ a1 < 2147483648) (r2 : -2147483648 ≤ a2 ∧ a2 < 2147483648) (r3 : -2147483648 ≤ a3 ∧ a3 < 2147483648) : 0 ≤ a1 ∧ a1 < ((2400 : Nat) : Int) := by omega
theorem z_X11_takeAsked_8 (a0 : Int) (a1 : Int) (a2 : Int) (a3 : Int) (a4 : Nat) (a5 : Nat) (h0 : 0 ≤ a3 ∧ a3 ≤ 2388 ∧ a3 ≤ ((a5 : Nat) : Int)) (h1 : a2 = -1 ∨ (0 ≤ a2 ∧ a2 < a3)) (h2 : 0 ≤ a0 ∧ a0 ≤ a3) (h3 : (0 : Int) ≤ a1) (h4 : 2147483648 - a1 < ((a4 + 1 : Nat) : Int)) (h5 : ¬ (a0 ≤ a1)) (r0 : -2147483648 ≤ a0 ∧ a0 < 2147483648) (r1 : -2147483648 ≤ a1 ∧ a1 < 2147483648) (r2 : -2147483648 ≤ a2 ∧ a2 < 2147483648) (r3 : -2147483648 ≤ a3 ∧ a3 < 2147483648) : 0 ≤ a1 ∧ a1 < ((a5 : Nat) : Int) := by omega
theorem z_X11_takeAsked_9 (a0 : Int) (a1 : Int) (a2 : Int) (a3 : Int) (a4 : Nat) (a5 : Nat) (h0 : 0 ≤ a3 ∧ a3 ≤ 2388 ∧ a3 ≤ ((a5 : Nat) : Int)) (h1 : a2 = -1 ∨ (0 ≤ a2 ∧ a2 < a3)) (h2 : 0 ≤ a0 ∧ a0 ≤ a3) (h3 : (0 : Int) ≤ a1) (h4 : 2147483648 - a1 < ((a4 + 1 : Nat) : Int)) (h5 : ¬ (a0 ≤ a1)) (r0 : -2147483648 ≤ a0 ∧ a0 < 2147483648) (r1 : -2147483648 ≤ a1 ∧ a1 < 2147483648) (r2 : -2147483648 ≤ a2 ∧ a2 < 2147483648) (r3 : -2147483648 ≤ a3 ∧ a3 < 2147483648) : 0 ≤ a1 ∧ a1 < ((2400 : Nat) : Int) := by omega
theorem z_X11_takeAsked_10 (a0 : Int) (a1 : Int) (a2 : Int) (a3 : Int) (a4 : Int) (a5 : Nat) (a6 : Nat) (h0 : 0 ≤ a4 ∧ a4 ≤ 2388 ∧ a4 ≤ ((a6 : Nat) : Int)) (h1 : a3 = -1 ∨ (0 ≤ a3 ∧ a3 < a4)) (h2 : 0 ≤ a0 ∧ a0 ≤ a4) (h3 : (0 : Int) ≤ a2) (h4 : 2147483648 - a2 < ((a5 + 1 : Nat) : Int)) (h5 : ¬ (a0 ≤ a2)) (h6 : a1 = a2 + 1 ∨ a2 + 1 < -2147483648 ∨ 2147483648 ≤ a2 + 1) (r0 : -2147483648 ≤ a0 ∧ a0 < 2147483648) (r1 : -2147483648 ≤ a1 ∧ a1 < 2147483648) (r2 : -2147483648 ≤ a2 ∧ a2 < 2147483648) (r3 : -2147483648 ≤ a3 ∧ a3 < 2147483648) (r4 : -2147483648 ≤ a4 ∧ a4 < 2147483648) : (0 : Int) ≤ a1 := by omega
theorem z_X11_takeAsked_11 (a0 : Int) (a1 : Int) (a2 : Int) (a3 : Int) (a4 : Int) (a5 : Nat) (a6 : Nat) (h0 : 0 ≤ a4 ∧ a4 ≤ 2388 ∧ a4 ≤ ((a6 : Nat) : Int)) (h1 : a3 = -1 ∨ (0 ≤ a3 ∧ a3 < a4)) (h2 : 0 ≤ a0 ∧ a0 ≤ a4) (h3 : (0 : Int) ≤ a2) (h4 : 2147483648 - a2 < ((a5 + 1 : Nat) : Int)) (h5 : ¬ (a0 ≤ a2)) (h6 : a1 = a2 + 1 ∨ a2 + 1 < -2147483648 ∨ 2147483648 ≤ a2 + 1) (r0 : -2147483648 ≤ a0 ∧ a0 < 2147483648) (r1 : -2147483648 ≤ a1 ∧ a1 < 2147483648) (r2 : -2147483648 ≤ a2 ∧ a2 < 2147483648) (r3 : -2147483648 ≤ a3 ∧ a3 < 2147483648) (r4 : -2147483648 ≤ a4 ∧ a4 < 2147483648) : 2147483648 - a1 < ((a5 : Nat) : Int) := by omega
theorem z_X11_takeAsked_12 (a0 : Int) (a1 : Int) (a2 : Int) (a3 : Nat) (h0 : 0 ≤ a2 ∧ a2 ≤ 2388 ∧ a2 ≤ ((a3 : Nat) : Int)) (h1 : a1 = -1 ∨ (0 ≤ a1 ∧ a1 < a2)) (h2 : a1 ≠ (-1 : Int)) (h3 : a0 = a1 + (1 : Int) ∨ a1 + (1 : Int) < -2147483648 ∨ 2147483648 ≤ a1 + (1 : Int)) (r0 : -2147483648 ≤ a0 ∧ a0 < 2147483648) (r1 : -2147483648 ≤ a1 ∧ a1 < 2147483648) (r2 : -2147483648 ≤ a2 ∧ a2 < 2147483648) : 0 ≤ a0 ∧ a0 ≤ a2 := by omega
theorem z_X11_takeAsked_13 (a0 : Int) (a1 : Int) (a2 : Nat) (h0 : 0 ≤ a1 ∧ a1 ≤ 2388 ∧ a1 ≤ ((a2 : Nat) : Int)) (h1 : a0 = -1 ∨ (0 ≤ a0 ∧ a0 < a1)) (h2 : ¬ (a0 ≠ (-1 : Int))) (r0 : -2147483648 ≤ a0 ∧ a0 < 2147483648) (r1 : -2147483648 ≤ a1 ∧ a1 < 2147483648) : 0 ≤ a1 ∧ a1 ≤ a1 := by omega
abbrev rm_X11_takeAsked : Room := { frames := 0, cells := 0, slots := 0, locals := 0 }
set_option maxHeartbeats 4000000 in
set_option maxRecDepth 100000 in
theorem c_X11_takeAsked (l : Launch) (E : XE) (K : Nat → Nat) (F : Nat → Nat → Nat) (tl z0 z1 z2 z3 z4 z5 z6 z7 z8 z9 z10 z11 z12 z13 z14 z15 z16 z17 z18 z19 z20 : Int32) (ar0 ar1 ar2 ar3 ar4 ar5 ar6 ar7 ar8 ar9 ar10 : Nat → Int32) (a : Nat) (ha : K a = 13) (hR : RV ar1) (e0 : 0 ≤ z4.toInt ∧ z4.toInt ≤ 2388 ∧ z4.toInt ≤ (((fV ar1 ar3 ar4) : Nat) : Int)) (e1 : z15.toInt = -1 ∨ (0 ≤ z15.toInt ∧ z15.toInt < z4.toInt)) : Met l yX11_takeAsked (xw yX11_takeAsked cX11_takeAsked 2 none) rm_X11_takeAsked (va_Pc [.ref a] (XP E K F (tl, [z0, z1, z2, z3, z4, z5, z6, z7, z8, z9, z10, z11, z12, z13, z14, z15, z16, z17, z18, z19, z20], [ar0, ar1, ar2, ar3, ar4, ar5, ar6, ar7, ar8, ar9, ar10]))) (XQv E (fun (u : Int32 × Int32) => (0 ≤ u.1.toInt ∧ u.1.toInt ≤ 2400)) (fun u H => TW E K F (tl, [z0, z1, z2, z3, z4, z5, z6, z7, z8, z9, z10, z11, u.1, u.2, z14, z15, z16, z17, z18, z19, z20], [ar0, ar1, ar2, ar3, ar4, ar5, ar6, ar7, ar8, ar9, ar10]) [] H)) 0 0 (xA E) := by
  refine x_enter (by decide) (Nat.le_of_ble_eq_true rfl) ?_
  intro p e s m args below meth c Q S hr hlk hnm hQ hP ls hl
  obtain ⟨hz, hK, hT⟩ := hP
  obtain ⟨hx, hb, -, -, -⟩ := id S
  obtain ⟨H, hT, hS, hgo⟩ : ∃ H : Heap, TW E K F (tl, [z0, z1, z2, z3, z4, z5, z6, z7, z8, z9, z10, z11, z12, z13, z14, z15, z16, z17, z18, z19, z20], [ar0, ar1, ar2, ar3, ar4, ar5, ar6, ar7, ar8, ar9, ar10]) [] H ∧ va_S (xA E) s.heap H [] ∧ H = s.heap := ⟨_, hT, va_S.rf, rfl⟩
  rw [← hgo]
  have hl : lv_has ls 2 [(0, .ref a)] := hl
  refine lv_aload_n hx hb dX11_takeAsked_0 rfl (lv_at hl 0 rfl) ?_
  refine lv_aload_n hx hb dX11_takeAsked_1 rfl (lv_at hl 0 rfl) ?_
  refine gX11_46 S hK hT ha kf_X11_322 dX11_takeAsked_2 (v := z15) rfl ?_
  refine lv_iconst (v := (-1)) hx hb dX11_takeAsked_5 (by decide) ?_
  have J22 : ∀ (x1 : Int32) (H : Heap) (locs : List Loc) (ls : Array Slot), 0 ≤ x1.toInt ∧ x1.toInt ≤ z4.toInt → TW E K F (tl, [z0, z1, z2, z3, z4, z5, z6, z7, z8, z9, z10, z11, z12, z13, z14, z15, z16, z17, z18, z19, z20], [ar0, ar1, ar2, ar3, ar4, ar5, ar6, ar7, ar8, ar9, ar10]) [] H → va_S (xA E) s.heap H locs → lv_has ls 2 [(0, .ref a)] → W p l e rm_X11_takeAsked s m args below meth c H locs 0 0 Q (F0 m 22 ls [.int x1, .ref a]) := by
    intro x1 H locs ls hf2 hT hS hl
    refine pX11_43 (kq := []) (v := x1) S hK hT hS ha kf_X11_340 (Nat.le_of_ble_eq_true rfl) dX11_takeAsked_22 (fun _ h => by cases h) (fun H locs hT hS => ?_)
    have hT : TW E K F (tl, [z0, z1, z2, z3, z4, z5, z6, z7, z8, z9, z10, z11, x1, z13, z14, z15, z16, z17, z18, z19, z20], [ar0, ar1, ar2, ar3, ar4, ar5, ar6, ar7, ar8, ar9, ar10]) [] H := hT
    refine lv_aload_n hx hb dX11_takeAsked_25 rfl (lv_at hl 0 rfl) ?_
    refine lv_aload_n hx hb dX11_takeAsked_26 rfl (lv_at hl 0 rfl) ?_
    refine gX11_46 S hK hT ha kf_X11_322 dX11_takeAsked_27 (v := z15) rfl ?_
    refine pX11_44 (kq := []) (v := z15) S hK hT hS ha kf_X11_115 (Nat.le_of_ble_eq_true rfl) dX11_takeAsked_30 (fun _ h => by cases h) (fun H locs hT hS => ?_)
    have hT : TW E K F (tl, [z0, z1, z2, z3, z4, z5, z6, z7, z8, z9, z10, z11, x1, z15, z14, z15, z16, z17, z18, z19, z20], [ar0, ar1, ar2, ar3, ar4, ar5, ar6, ar7, ar8, ar9, ar10]) [] H := hT
    refine lv_iconst (v := 0) hx hb dX11_takeAsked_33 (by decide) ?_
    refine lv_istore_n (lv' := [(1, .int 0), (0, .ref a)]) hx hb dX11_takeAsked_34 rfl hl (by decide) rfl (fun ls hl => ?_)
    have L35 : ∀ (N4 : Nat) (x3 : Int32) (H : Heap) (locs : List Loc) (ls : Array Slot), (0 : Int) ≤ x3.toInt → 2147483648 - x3.toInt < ((N4 : Nat) : Int) → TW E K F (tl, [z0, z1, z2, z3, z4, z5, z6, z7, z8, z9, z10, z11, x1, z15, z14, z15, z16, z17, z18, z19, z20], [ar0, ar1, ar2, ar3, ar4, ar5, ar6, ar7, ar8, ar9, ar10]) [] H → va_S (xA E) s.heap H locs → lv_has ls 2 [(0, .ref a), (1, .int x3)] → W p l e rm_X11_takeAsked s m args below meth c H locs 0 0 Q (F0 m 35 ls []) := by
      intro N4
      induction N4 with
      | zero =>
        intro x3 H locs ls hf5 hm6
        exact absurd hm6 (z_X11_takeAsked_1 x3.toInt hf5 (xr x3))
      | succ N4 ih7 =>
        intro x3 H locs ls hf5 hm6 hT hS hl
        refine lv_iload_n hx hb dX11_takeAsked_35 rfl (lv_at hl 1 rfl) ?_
        refine lv_aload_n hx hb dX11_takeAsked_36 rfl (lv_at hl 0 rfl) ?_
        refine gX11_43 S hK hT ha kf_X11_340 dX11_takeAsked_37 (v := x1) rfl ?_
        refine xi_cge (tgt := 73) hx hb (rfl : Int32.toInt x3 = x3.toInt) (rfl : Int32.toInt x1 = x1.toInt) dX11_takeAsked_40 (by decide) (fun c8 => ?_) (fun c8 => ?_)
        · refine lv_aload_n hx hb dX11_takeAsked_73 rfl (lv_at hl 0 rfl) ?_
          refine gX11_9 S hK hT ha kf_X11_30 dX11_takeAsked_74 (fun hk9 => ?_)
          refine lv_iconst (v := 0) hx hb dX11_takeAsked_77 (by decide) ?_
          refine lv_dup2_11 hx hb dX11_takeAsked_78 rfl rfl ?_
          refine al_0 S hK hT hk9 ar_36 (by decide) (by decide) dX11_takeAsked_79 (fun x10 o11 => ?_)
          refine lv_aload_n hx hb dX11_takeAsked_80 rfl (lv_at hl 0 rfl) ?_
          refine gX11_43 S hK hT ha kf_X11_340 dX11_takeAsked_81 (v := x1) rfl ?_
          refine xi_iadd hx hb (rfl : Int32.toInt x10 = x10.toInt) (rfl : Int32.toInt x1 = x1.toInt) dX11_takeAsked_84 (fun x12 t13 => ?_)
          refine as_0 S hK hT hS hk9 ar_36 aw_36 (by decide) (by decide) dX11_takeAsked_85 (fun H locs hT hS => ?_)
          exact x_rv hx hb hr hlk hQ (Nat.le_of_ble_eq_true rfl) (Nat.le_of_ble_eq_true rfl) hS dX11_takeAsked_86 (x1, z15) (z_X11_takeAsked_2 x1.toInt x10.toInt x12.toInt x3.toInt z15.toInt z4.toInt N4 (fV ar1 ar3 ar4) e0 e1 hf2 hf5 hm6 c8 t13 (xr x1) (xr x10) (xr x12) (xr x3) (xr z15) (xr z4)) hT.nil
        · refine lv_aload_n hx hb dX11_takeAsked_43 rfl (lv_at hl 0 rfl) ?_
          refine gX11_41 S hK hT ha kf_X11_109 dX11_takeAsked_44 (fun hk14 => ?_)
          refine lv_iload_n hx hb dX11_takeAsked_47 rfl (lv_at hl 1 rfl) ?_
          refine lv_aload_n hx hb dX11_takeAsked_48 rfl (lv_at hl 0 rfl) ?_
          refine gX11_17 S hK hT ha kf_X11_51 dX11_takeAsked_49 (fun hk15 => ?_)
          refine lv_iload_n hx hb dX11_takeAsked_52 rfl (lv_at hl 1 rfl) ?_
          refine tld_0 S hK hT hk15 (at_43 (f := ar3) rfl) (by decide) (z_X11_takeAsked_3 x1.toInt x3.toInt z15.toInt z4.toInt N4 (fV ar1 ar3 ar4) e0 e1 hf2 hf5 hm6 c8 (xr x1) (xr x3) (xr z15) (xr z4)) dX11_takeAsked_53 (fun x16 w17 o18 => ?_)
          have v20 : 0 ≤ x16.toInt ∧ x16.toInt ≤ 11 ∧ 0 ≤ (aI ar1 (10 * x16.toInt + (0 : Int))) := fV_rule (f4 := ar4) w17 (z_X11_takeAsked_4 x1.toInt x3.toInt z15.toInt z4.toInt N4 (fV ar1 ar3 ar4) e0 e1 hf2 hf5 hm6 c8 (xr x1) (xr x3) (xr z15) (xr z4))
          have v21 : (-1 ≤ (aI ar1 (10 * x16.toInt + (0 : Int))) ∧ (aI ar1 (10 * x16.toInt + (0 : Int))) ≤ 5) ∧ (0 ≤ (aI ar1 (10 * x16.toInt + (1 : Int))) ∧ (aI ar1 (10 * x16.toInt + (1 : Int))) ≤ 2) ∧ (0 ≤ (aI ar1 (10 * x16.toInt + (2 : Int))) ∧ (aI ar1 (10 * x16.toInt + (2 : Int))) ≤ 2) ∧ (-1 ≤ (aI ar1 (10 * x16.toInt + (3 : Int))) ∧ (aI ar1 (10 * x16.toInt + (3 : Int))) ≤ 2) ∧ ((aI ar1 (10 * x16.toInt + (0 : Int))) = 1 ∨ (aI ar1 (10 * x16.toInt + (0 : Int))) = 3 ∨ (aI ar1 (10 * x16.toInt + (0 : Int))) = 4 → 0 ≤ (aI ar1 (10 * x16.toInt + (3 : Int)))) := RV.row hR (z_X11_takeAsked_5 x16.toInt (aI ar1 (10 * x16.toInt + (0 : Int))) (aI ar3 x3.toInt) w17 v20 (xr x16))
          refine as_0 S hK hT hS hk14 ar_53 aw_53 (by decide) (z_X11_takeAsked_6 x1.toInt x3.toInt z15.toInt z4.toInt N4 (fV ar1 ar3 ar4) e0 e1 hf2 hf5 hm6 c8 (xr x1) (xr x3) (xr z15) (xr z4)) dX11_takeAsked_54 (fun H locs hT hS => ?_)
          refine lv_aload_n hx hb dX11_takeAsked_55 rfl (lv_at hl 0 rfl) ?_
          refine gX11_42 S hK hT ha kf_X11_112 dX11_takeAsked_56 (fun hk22 => ?_)
          refine lv_iload_n hx hb dX11_takeAsked_59 rfl (lv_at hl 1 rfl) ?_
          refine lv_aload_n hx hb dX11_takeAsked_60 rfl (lv_at hl 0 rfl) ?_
          refine gX11_18 S hK hT ha kf_X11_54 dX11_takeAsked_61 (fun hk23 => ?_)
          refine lv_iload_n hx hb dX11_takeAsked_64 rfl (lv_at hl 1 rfl) ?_
          refine tld_0 S hK hT hk23 (at_44 (f := ar4) rfl) (by decide) (z_X11_takeAsked_7 x1.toInt x3.toInt z15.toInt z4.toInt N4 (fV ar1 ar3 ar4) e0 e1 hf2 hf5 hm6 c8 (xr x1) (xr x3) (xr z15) (xr z4)) dX11_takeAsked_65 (fun x24 w25 o26 => ?_)
          have v28 : -99 ≤ x24.toInt ∧ x24.toInt ≤ 99 ∧ ((aI ar1 (10 * x16.toInt + (0 : Int))) = 2 ∨ (aI ar1 (10 * x16.toInt + (0 : Int))) = 4 ∨ (aI ar1 (10 * x16.toInt + (0 : Int))) = 5 → 0 ≤ x24.toInt ∧ x24.toInt ≤ 29) := fV_sub w17 w25 (z_X11_takeAsked_8 x1.toInt x3.toInt z15.toInt z4.toInt N4 (fV ar1 ar3 ar4) e0 e1 hf2 hf5 hm6 c8 (xr x1) (xr x3) (xr z15) (xr z4))
          refine as_0 S hK hT hS hk22 ar_54 aw_54 (by decide) (z_X11_takeAsked_9 x1.toInt x3.toInt z15.toInt z4.toInt N4 (fV ar1 ar3 ar4) e0 e1 hf2 hf5 hm6 c8 (xr x1) (xr x3) (xr z15) (xr z4)) dX11_takeAsked_66 (fun H locs hT hS => ?_)
          refine xi_iinc (n := 1) (lv' := fun z9 => [(1, .int z9), (0, .ref a)]) (k := 1) hx hb (rfl : Int32.toInt x3 = x3.toInt) (by decide) dX11_takeAsked_67 hl rfl (by decide) (fun _ => rfl) (fun x29 ls t30 hl => ?_)
          have hl : lv_has ls 2 [(1, .int x29), (0, .ref a)] := hl
          refine lv_goto (tgt := 35) hx hb dX11_takeAsked_70 (by decide) ?_
          exact ih7 x29 _ _ _ (z_X11_takeAsked_10 x1.toInt x29.toInt x3.toInt z15.toInt z4.toInt N4 (fV ar1 ar3 ar4) e0 e1 hf2 hf5 hm6 c8 t30 (xr x1) (xr x29) (xr x3) (xr z15) (xr z4)) (z_X11_takeAsked_11 x1.toInt x29.toInt x3.toInt z15.toInt z4.toInt N4 (fV ar1 ar3 ar4) e0 e1 hf2 hf5 hm6 c8 t30 (xr x1) (xr x29) (xr x3) (xr z15) (xr z4)) hT.nil hS (lv_sub hl [1, 0] rfl)
    exact L35 4294967297 0 _ _ _ (by decide) (by decide) hT.nil hS (lv_sub hl [1, 0] rfl)
  refine xi_cne (tgt := 16) hx hb (rfl : Int32.toInt z15 = z15.toInt) ((by decide) : Int32.toInt (-1) = (-1 : Int)) dX11_takeAsked_6 (by decide) (fun c31 => ?_) (fun c31 => ?_)
  · refine lv_aload_n hx hb dX11_takeAsked_16 rfl (lv_at hl 0 rfl) ?_
    refine gX11_46 S hK hT ha kf_X11_322 dX11_takeAsked_17 (v := z15) rfl ?_
    refine lv_iconst (v := 1) hx hb dX11_takeAsked_20 (by decide) ?_
    refine xi_iadd hx hb (rfl : Int32.toInt z15 = z15.toInt) ((by decide) : Int32.toInt 1 = (1 : Int)) dX11_takeAsked_21 (fun x32 t33 => ?_)
    exact J22 x32 _ _ _ (z_X11_takeAsked_12 x32.toInt z15.toInt z4.toInt (fV ar1 ar3 ar4) e0 e1 c31 t33 (xr x32) (xr z15) (xr z4)) hT.nil hS (lv_sub hl [0] rfl)
  · refine lv_aload_n hx hb dX11_takeAsked_9 rfl (lv_at hl 0 rfl) ?_
    refine gX11_19 S hK hT ha kf_X11_203 dX11_takeAsked_10 (v := z4) rfl ?_
    refine lv_goto (tgt := 22) hx hb dX11_takeAsked_13 (by decide) ?_
    exact J22 z4 _ _ _ (z_X11_takeAsked_13 z15.toInt z4.toInt (fV ar1 ar3 ar4) e0 e1 c31 (xr z15) (xr z4)) hT.nil hS (lv_sub hl [0] rfl)

theorem z_X11_settles_1 (a0 : Int) (a1 : Int) (a2 : Nat) (h0 : 0 ≤ a0 ∧ a0 ≤ 2388 ∧ a0 ≤ ((a2 : Nat) : Int) ∧ (a1 = -1 ∨ (0 ≤ a1 ∧ a1 < a0))) (r0 : -2147483648 ≤ a0 ∧ a0 < 2147483648) (r1 : -2147483648 ≤ a1 ∧ a1 < 2147483648) : 0 ≤ a0 ∧ a0 ≤ 2388 ∧ a0 ≤ ((a2 : Nat) : Int) := by omega
theorem z_X11_settles_2 (a0 : Int) (a1 : Int) (a2 : Nat) (h0 : 0 ≤ a0 ∧ a0 ≤ 2388 ∧ a0 ≤ ((a2 : Nat) : Int) ∧ (a1 = -1 ∨ (0 ≤ a1 ∧ a1 < a0))) (r0 : -2147483648 ≤ a0 ∧ a0 < 2147483648) (r1 : -2147483648 ≤ a1 ∧ a1 < 2147483648) : a1 = -1 ∨ (0 ≤ a1 ∧ a1 < a0) := by omega
theorem z_X11_settles_3 (a0 : Int) (a1 : Int) (h0 : 0 ≤ a1 ∧ a1 ≤ 24) (h1 : 0 ≤ a0 ∧ a0 ≤ 2400) (r0 : -2147483648 ≤ a0 ∧ a0 < 2147483648) (r1 : -2147483648 ≤ a1 ∧ a1 < 2147483648) : 0 ≤ a1 ∧ a1 ≤ 24 ∧ 0 ≤ a0 ∧ a0 ≤ 2400 := by omega
theorem z_X11_settles_4 (a0 : Int) (a1 : Int) (a2 : Nat) (h0 : 0 ≤ a0 ∧ a0 ≤ 2388 ∧ a0 ≤ ((a2 : Nat) : Int) ∧ (a1 = -1 ∨ (0 ≤ a1 ∧ a1 < a0))) (h1 : ¬ (a1 = (-1 : Int))) (r0 : -2147483648 ≤ a0 ∧ a0 < 2147483648) (r1 : -2147483648 ≤ a1 ∧ a1 < 2147483648) : 0 ≤ a0 ∧ a0 ≤ 2388 ∧ a0 ≤ ((a2 : Nat) : Int) := by omega
theorem z_X11_settles_5 (a0 : Int) (a1 : Int) (a2 : Nat) (h0 : 0 ≤ a0 ∧ a0 ≤ 2388 ∧ a0 ≤ ((a2 : Nat) : Int) ∧ (a1 = -1 ∨ (0 ≤ a1 ∧ a1 < a0))) (h1 : ¬ (a1 = (-1 : Int))) (r0 : -2147483648 ≤ a0 ∧ a0 < 2147483648) (r1 : -2147483648 ≤ a1 ∧ a1 < 2147483648) : 0 ≤ a1 ∧ a1 < a0 := by omega
theorem z_X11_settles_6 (a0 : Int) (a1 : Int) (h0 : 0 ≤ a0 ∧ a0 ≤ 2400) (h1 : 0 ≤ a1 ∧ a1 ≤ 24) (r0 : -2147483648 ≤ a0 ∧ a0 < 2147483648) (r1 : -2147483648 ≤ a1 ∧ a1 < 2147483648) : 0 ≤ a1 ∧ a1 ≤ 24 ∧ 0 ≤ a0 ∧ a0 ≤ 2400 := by omega
theorem z_X11_settles_7 (a0 : Int) (a1 : Int) (h0 : 0 ≤ a1 ∧ a1 ≤ 24) (h1 : 0 ≤ a0 ∧ a0 ≤ 2400) (r0 : -2147483648 ≤ a0 ∧ a0 < 2147483648) (r1 : -2147483648 ≤ a1 ∧ a1 < 2147483648) : 0 ≤ a1 ∧ a1 ≤ 24 ∧ 0 ≤ a0 ∧ a0 ≤ 2400 := by omega
theorem z_X11_settles_8 (a0 : Int) (a1 : Int) (a2 : Int) (a3 : Int) (a4 : Int) (a5 : Int) (a6 : Nat) (h0 : 0 ≤ a0 ∧ a0 ≤ 2388 ∧ a0 ≤ ((a6 : Nat) : Int) ∧ a1 = a5 ∧ (a5 = -1 ∨ (0 ≤ a5 ∧ a5 < a0))) (h1 : ¬ (a5 = (-1 : Int))) (h2 : a3 = a1 + (1 : Int) ∨ a1 + (1 : Int) < -2147483648 ∨ 2147483648 ≤ a1 + (1 : Int)) (h3 : a4 = a2 + a3 ∨ a2 + a3 < -2147483648 ∨ 2147483648 ≤ a2 + a3) (r0 : -2147483648 ≤ a0 ∧ a0 < 2147483648) (r1 : -2147483648 ≤ a1 ∧ a1 < 2147483648) (r2 : -2147483648 ≤ a2 ∧ a2 < 2147483648) (r3 : -2147483648 ≤ a3 ∧ a3 < 2147483648) (r4 : -2147483648 ≤ a4 ∧ a4 < 2147483648) (r5 : -2147483648 ≤ a5 ∧ a5 < 2147483648) : 0 ≤ a0 ∧ a0 ≤ 2388 ∧ a0 ≤ ((a6 : Nat) : Int) := by omega
theorem z_X11_settles_9 (a0 : Int) (a1 : Int) (a2 : Int) (a3 : Int) (a4 : Int) (a5 : Int) (a6 : Nat) (h0 : 0 ≤ a0 ∧ a0 ≤ 2388 ∧ a0 ≤ ((a6 : Nat) : Int) ∧ a1 = a5 ∧ (a5 = -1 ∨ (0 ≤ a5 ∧ a5 < a0))) (h1 : ¬ (a5 = (-1 : Int))) (h2 : a3 = a1 + (1 : Int) ∨ a1 + (1 : Int) < -2147483648 ∨ 2147483648 ≤ a1 + (1 : Int)) (h3 : a4 = a2 + a3 ∨ a2 + a3 < -2147483648 ∨ 2147483648 ≤ a2 + a3) (r0 : -2147483648 ≤ a0 ∧ a0 < 2147483648) (r1 : -2147483648 ≤ a1 ∧ a1 < 2147483648) (r2 : -2147483648 ≤ a2 ∧ a2 < 2147483648) (r3 : -2147483648 ≤ a3 ∧ a3 < 2147483648) (r4 : -2147483648 ≤ a4 ∧ a4 < 2147483648) (r5 : -2147483648 ≤ a5 ∧ a5 < 2147483648) : 0 ≤ a1 ∧ a1 < a0 := by omega
theorem z_X11_settles_10 (a0 : Int) (a1 : Int) (h0 : 0 ≤ a1 ∧ a1 ≤ 2400) (h1 : 0 ≤ a0 ∧ a0 ≤ 24) (r0 : -2147483648 ≤ a0 ∧ a0 < 2147483648) (r1 : -2147483648 ≤ a1 ∧ a1 < 2147483648) : 0 ≤ a0 ∧ a0 ≤ 24 ∧ 0 ≤ a1 ∧ a1 ≤ 2400 := by omega
abbrev rm_X11_settles : Room := { frames := 7, cells := 0, slots := 0, locals := 166 }
set_option maxHeartbeats 4000000 in
set_option maxRecDepth 100000 in
theorem c_X11_settles (l : Launch) (E : XE) (K : Nat → Nat) (F : Nat → Nat → Nat) (tl z0 z1 z2 z3 z4 z5 z6 z7 z8 z9 z10 z11 z12 z13 z14 z15 z16 z17 z18 z19 z20 : Int32) (ar0 ar1 ar2 ar3 ar4 ar5 ar6 ar7 ar8 ar9 ar10 : Nat → Int32) (a : Nat) (ha : K a = 13) (hR : RV ar1) (e0 : 0 ≤ z7.toInt ∧ z7.toInt ≤ 24) (e1 : 0 ≤ z12.toInt ∧ z12.toInt ≤ 2400) : Met l yX11_settles (xw yX11_settles cX11_settles 1 (some .int)) rm_X11_settles (va_Pc [.ref a] (XP E K F (tl, [z0, z1, z2, z3, z4, z5, z6, z7, z8, z9, z10, z11, z12, z13, z14, z15, z16, z17, z18, z19, z20], [ar0, ar1, ar2, ar3, ar4, ar5, ar6, ar7, ar8, ar9, ar10]))) (XQ E (fun v (u : Int32 × Int32 × Int32 × Int32 × Int32 × Int32 × Int32 × Int32 × Int32 × (Nat → Int32) × (Nat → Int32) × (Nat → Int32) × (Nat → Int32)) => ∃ r : Int32, v = .int r ∧ (0 ≤ u.2.2.2.2.1.toInt ∧ u.2.2.2.2.1.toInt ≤ 24 ∧ 0 ≤ u.2.2.2.2.2.1.toInt ∧ u.2.2.2.2.2.1.toInt ≤ 2400)) (fun u H => TW E K F (tl, [z0, z1, z2, u.1, u.2.1, u.2.2.1, u.2.2.2.1, u.2.2.2.2.1, z8, z9, z10, z11, u.2.2.2.2.2.1, u.2.2.2.2.2.2.1, u.2.2.2.2.2.2.2.1, u.2.2.2.2.2.2.2.2.1, z16, z17, z18, z19, z20], [u.2.2.2.2.2.2.2.2.2.1, ar1, u.2.2.2.2.2.2.2.2.2.2.1, u.2.2.2.2.2.2.2.2.2.2.2.1, u.2.2.2.2.2.2.2.2.2.2.2.2, ar5, ar6, ar7, ar8, ar9, ar10]) [] H)) 0 0 (xA E) := by
  refine x_enter (by decide) (Nat.le_of_ble_eq_true rfl) ?_
  intro p e s m args below meth c Q S hr hlk hnm hQ hP ls hl
  obtain ⟨hz, hK, hT⟩ := hP
  obtain ⟨hx, hb, -, -, -⟩ := id S
  obtain ⟨H, hT, hS, hgo⟩ : ∃ H : Heap, TW E K F (tl, [z0, z1, z2, z3, z4, z5, z6, z7, z8, z9, z10, z11, z12, z13, z14, z15, z16, z17, z18, z19, z20], [ar0, ar1, ar2, ar3, ar4, ar5, ar6, ar7, ar8, ar9, ar10]) [] H ∧ va_S (xA E) s.heap H [] ∧ H = s.heap := ⟨_, hT, va_S.rf, rfl⟩
  rw [← hgo]
  have hl : lv_has ls 1 [(0, .ref a)] := hl
  refine lv_aload_n hx hb dX11_settles_0 rfl (lv_at hl 0 rfl) ?_
  refine x_cl0 (x_runV (b := a) (As := []) (rest := []) S (c_X11_look l E K F tl z0 z1 z2 z3 z4 z5 z6 z7 z8 z9 z10 z11 z12 z13 z14 z15 z16 z17 z18 z19 z20 ar0 ar1 ar2 ar3 ar4 ar5 ar6 ar7 ar8 ar9 ar10 a ha hR) mv_X11_look km_X11_328 rfl rfl ⟨Nat.le_of_ble_eq_true rfl, Nat.le_of_ble_eq_true rfl⟩ (rc_13 hK hT ha) hK (fun _ => XP.blind) (fun U hU hW => XP.at hK hz hS hT hU hW) rfl hl.1 (Nat.le_of_ble_eq_true rfl) dX11_settles_1 ⟨Nat.le_of_ble_eq_true rfl, Nat.le_of_ble_eq_true rfl⟩) hS ?_
  rintro _ ⟨u1, u2, u3, u4, f5, f6, f7⟩ H locs ⟨x9, rfl, t8⟩ hT hS
  have hT : TW E K F (tl, [z0, z1, z2, u1, u2, z5, z6, z7, z8, z9, z10, z11, z12, z13, u3, u4, z16, z17, z18, z19, z20], [ar0, ar1, f5, f6, f7, ar5, ar6, ar7, ar8, ar9, ar10]) [] H := hT
  have t8 : 0 ≤ u2.toInt ∧ u2.toInt ≤ 2388 ∧ u2.toInt ≤ (((fV ar1 f6 f7) : Nat) : Int) ∧ u4.toInt = x9.toInt ∧ (x9.toInt = -1 ∨ (0 ≤ x9.toInt ∧ x9.toInt < u2.toInt)) := t8
  refine lv_iconst (v := (-1)) hx hb dX11_settles_4 (by decide) ?_
  refine xi_ceq (tgt := 28) hx hb (rfl : Int32.toInt x9 = x9.toInt) ((by decide) : Int32.toInt (-1) = (-1 : Int)) dX11_settles_5 (by decide) (fun c11 => ?_) (fun c11 => ?_)
  · refine lv_aload_n hx hb dX11_settles_28 rfl (lv_at hl 0 rfl) ?_
    refine gX11_9 S hK hT ha kf_X11_30 dX11_settles_29 (fun hk12 => ?_)
    refine lv_iconst (v := 0) hx hb dX11_settles_32 (by decide) ?_
    refine lv_dup2_11 hx hb dX11_settles_33 rfl rfl ?_
    refine al_0 S hK hT hk12 ar_36 (by decide) (by decide) dX11_settles_34 (fun x13 o14 => ?_)
    refine lv_aload_n hx hb dX11_settles_35 rfl (lv_at hl 0 rfl) ?_
    refine gX11_19 S hK hT ha kf_X11_203 dX11_settles_36 (v := u2) rfl ?_
    refine xi_iadd hx hb (rfl : Int32.toInt x13 = x13.toInt) (rfl : Int32.toInt u2 = u2.toInt) dX11_settles_39 (fun x15 t16 => ?_)
    refine as_0 S hK hT hS hk12 ar_36 aw_36 (by decide) (by decide) dX11_settles_40 (fun H locs hT hS => ?_)
    refine lv_aload_n hx hb dX11_settles_41 rfl (lv_at hl 0 rfl) ?_
    refine gX11_6 S hK hT ha kf_X11_206 dX11_settles_42 (v := z1) rfl ?_
    refine xi_zeq (tgt := 89) hx hb (rfl : Int32.toInt z1 = z1.toInt) dX11_settles_45 (by decide) (fun c17 => ?_) (fun c17 => ?_)
    · refine lv_aload_n hx hb dX11_settles_89 rfl (lv_at hl 0 rfl) ?_
      refine lv_aload_n hx hb dX11_settles_90 rfl (lv_at hl 0 rfl) ?_
      refine lv_iconst (v := 1) hx hb dX11_settles_91 (by decide) ?_
      refine x_cl0 (x_runV (b := a) (As := [.int 1]) (rest := [.ref a]) S (c_X11_asks l E K F tl z0 z1 z2 u1 u2 z5 z6 z7 z8 z9 z10 z11 z12 z13 u3 u4 z16 z17 z18 z19 z20 ar0 ar1 f5 f6 f7 ar5 ar6 ar7 ar8 ar9 ar10 a 1 ha hR) mv_X11_asks km_X11_319 rfl rfl ⟨Nat.le_of_ble_eq_true rfl, Nat.le_of_ble_eq_true rfl⟩ (rc_13 hK hT ha) hK (fun _ => XP.blind) (fun U hU hW => XP.at hK hz hS hT hU hW) rfl hl.1 (Nat.le_of_ble_eq_true rfl) dX11_settles_92 ⟨Nat.le_of_ble_eq_true rfl, Nat.le_of_ble_eq_true rfl⟩) hS ?_
      rintro _ ⟨u18, u19, f20, f21, f22⟩ H locs ⟨x24, rfl, t23⟩ hT hS
      have hT : TW E K F (tl, [z0, z1, z2, u18, u19, z5, z6, z7, z8, z9, z10, z11, z12, z13, u3, u4, z16, z17, z18, z19, z20], [ar0, ar1, f20, f21, f22, ar5, ar6, ar7, ar8, ar9, ar10]) [] H := hT
      have t23 : 0 ≤ u19.toInt ∧ u19.toInt ≤ 2388 ∧ u19.toInt ≤ (((fV ar1 f21 f22) : Nat) : Int) ∧ (x24.toInt = -1 ∨ (0 ≤ x24.toInt ∧ x24.toInt < u19.toInt)) := t23
      refine pX11_46 (kq := []) (v := x24) S hK hT hS ha kf_X11_322 (Nat.le_of_ble_eq_true rfl) dX11_settles_95 (fun _ h => by cases h) (fun H locs hT hS => ?_)
      have hT : TW E K F (tl, [z0, z1, z2, u18, u19, z5, z6, z7, z8, z9, z10, z11, z12, z13, u3, x24, z16, z17, z18, z19, z20], [ar0, ar1, f20, f21, f22, ar5, ar6, ar7, ar8, ar9, ar10]) [] H := hT
      refine lv_aload_n hx hb dX11_settles_98 rfl (lv_at hl 0 rfl) ?_
      refine x_cv0 (x_runV (b := a) (As := []) (rest := []) S (c_X11_takeAsked l E K F tl z0 z1 z2 u18 u19 z5 z6 z7 z8 z9 z10 z11 z12 z13 u3 x24 z16 z17 z18 z19 z20 ar0 ar1 f20 f21 f22 ar5 ar6 ar7 ar8 ar9 ar10 a ha hR (z_X11_settles_1 u19.toInt x24.toInt (fV ar1 f21 f22) t23 (xr u19) (xr x24)) (z_X11_settles_2 u19.toInt x24.toInt (fV ar1 f21 f22) t23 (xr u19) (xr x24))) mv_X11_takeAsked km_X11_337 rfl rfl ⟨Nat.le_of_ble_eq_true rfl, Nat.le_of_ble_eq_true rfl⟩ (rc_13 hK hT ha) hK (fun _ => XP.blind) (fun U hU hW => XP.at hK hz hS hT hU hW) rfl hl.1 (Nat.le_of_ble_eq_true rfl) dX11_settles_99 ⟨Nat.le_of_ble_eq_true rfl, Nat.le_of_ble_eq_true rfl⟩) hS ?_
      rintro ⟨u26, u27⟩ H locs t28 hT hS
      have hT : TW E K F (tl, [z0, z1, z2, u18, u19, z5, z6, z7, z8, z9, z10, z11, u26, u27, u3, x24, z16, z17, z18, z19, z20], [ar0, ar1, f20, f21, f22, ar5, ar6, ar7, ar8, ar9, ar10]) [] H := hT
      have t28 : 0 ≤ u26.toInt ∧ u26.toInt ≤ 2400 := t28
      refine lv_aload_n hx hb dX11_settles_102 rfl (lv_at hl 0 rfl) ?_
      refine gX11_46 S hK hT ha kf_X11_322 dX11_settles_103 (v := x24) rfl ?_
      refine lv_iconst (v := (-1)) hx hb dX11_settles_106 (by decide) ?_
      refine xi_ceq (tgt := 125) hx hb (rfl : Int32.toInt x24 = x24.toInt) ((by decide) : Int32.toInt (-1) = (-1 : Int)) dX11_settles_107 (by decide) (fun c31 => ?_) (fun c31 => ?_)
      · refine lv_aload_n hx hb dX11_settles_125 rfl (lv_at hl 0 rfl) ?_
        refine gX11_9 S hK hT ha kf_X11_30 dX11_settles_126 (fun hk32 => ?_)
        refine lv_iconst (v := 1) hx hb dX11_settles_129 (by decide) ?_
        refine lv_dup2_11 hx hb dX11_settles_130 rfl rfl ?_
        refine al_0 S hK hT hk32 ar_36 (by decide) (by decide) dX11_settles_131 (fun x33 o34 => ?_)
        refine lv_iconst (v := 1) hx hb dX11_settles_132 (by decide) ?_
        refine xi_iadd hx hb (rfl : Int32.toInt x33 = x33.toInt) ((by decide) : Int32.toInt 1 = (1 : Int)) dX11_settles_133 (fun x35 t36 => ?_)
        refine as_0 S hK hT hS hk32 ar_36 aw_36 (by decide) (by decide) dX11_settles_134 (fun H locs hT hS => ?_)
        refine lv_aload_n hx hb dX11_settles_135 rfl (lv_at hl 0 rfl) ?_
        refine gX11_45 S hK hT ha kf_X11_316 dX11_settles_136 (v := u3) rfl ?_
        exact x_ri hx hb hr hlk hQ (Nat.le_of_ble_eq_true rfl) (Nat.le_of_ble_eq_true rfl) hS dX11_settles_139 (u18, u19, z5, z6, z7, u26, u27, u3, x24, ar0, f20, f21, f22) ⟨_, rfl, (z_X11_settles_3 u26.toInt z7.toInt e0 t28 (xr u26) (xr z7))⟩ hT.nil
      · refine lv_aload_n hx hb dX11_settles_110 rfl (lv_at hl 0 rfl) ?_
        refine gX11_9 S hK hT ha kf_X11_30 dX11_settles_111 (fun hk37 => ?_)
        refine lv_iconst (v := 2) hx hb dX11_settles_114 (by decide) ?_
        refine lv_dup2_11 hx hb dX11_settles_115 rfl rfl ?_
        refine al_0 S hK hT hk37 ar_36 (by decide) (by decide) dX11_settles_116 (fun x38 o39 => ?_)
        refine lv_iconst (v := 1) hx hb dX11_settles_117 (by decide) ?_
        refine xi_iadd hx hb (rfl : Int32.toInt x38 = x38.toInt) ((by decide) : Int32.toInt 1 = (1 : Int)) dX11_settles_118 (fun x40 t41 => ?_)
        refine as_0 S hK hT hS hk37 ar_36 aw_36 (by decide) (by decide) dX11_settles_119 (fun H locs hT hS => ?_)
        refine lv_aload_n hx hb dX11_settles_120 rfl (lv_at hl 0 rfl) ?_
        refine x_cl0 (x_runV (b := a) (As := []) (rest := []) S (c_X11_goesBack l E K F tl z0 z1 z2 u18 u19 z5 z6 z7 z8 z9 z10 z11 u26 u27 u3 x24 z16 z17 z18 z19 z20 ar0 ar1 f20 f21 f22 ar5 ar6 ar7 ar8 ar9 ar10 a ha hR (z_X11_settles_4 u19.toInt x24.toInt (fV ar1 f21 f22) t23 c31 (xr u19) (xr x24)) (z_X11_settles_5 u19.toInt x24.toInt (fV ar1 f21 f22) t23 c31 (xr u19) (xr x24))) mv_X11_goesBack km_X11_331 rfl rfl ⟨Nat.le_of_ble_eq_true rfl, Nat.le_of_ble_eq_true rfl⟩ (rc_13 hK hT ha) hK (fun _ => XP.blind) (fun U hU hW => XP.at hK hz hS hT hU hW) rfl hl.1 (Nat.le_of_ble_eq_true rfl) dX11_settles_121 ⟨Nat.le_of_ble_eq_true rfl, Nat.le_of_ble_eq_true rfl⟩) hS ?_
        rintro _ ⟨u42, u43, u44, f45⟩ H locs ⟨x47, rfl, t46⟩ hT hS
        have hT : TW E K F (tl, [z0, z1, z2, u18, u19, u42, u43, u44, z8, z9, z10, z11, u26, u27, u3, x24, z16, z17, z18, z19, z20], [f45, ar1, f20, f21, f22, ar5, ar6, ar7, ar8, ar9, ar10]) [] H := hT
        have t46 : 0 ≤ u44.toInt ∧ u44.toInt ≤ 24 := t46
        exact x_ri hx hb hr hlk hQ (Nat.le_of_ble_eq_true rfl) (Nat.le_of_ble_eq_true rfl) hS dX11_settles_124 (u18, u19, u42, u43, u44, u26, u27, u3, x24, f45, f20, f21, f22) ⟨_, rfl, (z_X11_settles_6 u26.toInt u44.toInt t28 t46 (xr u26) (xr u44))⟩ hT.nil
    · refine lv_aload_n hx hb dX11_settles_48 rfl (lv_at hl 0 rfl) ?_
      refine gX11_8 S hK hT ha kf_X11_27 dX11_settles_49 (fun hk49 => ?_)
      refine lv_iconst (v := 4) hx hb dX11_settles_52 (by decide) ?_
      refine lv_dup2_11 hx hb dX11_settles_53 rfl rfl ?_
      refine al_0 S hK hT hk49 ar_35 (by decide) (by decide) dX11_settles_54 (fun x50 o51 => ?_)
      refine lv_iconst (v := 1) hx hb dX11_settles_55 (by decide) ?_
      refine xi_iadd hx hb (rfl : Int32.toInt x50 = x50.toInt) ((by decide) : Int32.toInt 1 = (1 : Int)) dX11_settles_56 (fun x52 t53 => ?_)
      refine as_0 S hK hT hS hk49 ar_35 aw_35 (by decide) (by decide) dX11_settles_57 (fun H locs hT hS => ?_)
      refine lv_aload_n hx hb dX11_settles_58 rfl (lv_at hl 0 rfl) ?_
      refine lv_aload_n hx hb dX11_settles_59 rfl (lv_at hl 0 rfl) ?_
      refine gX11_13 S hK hT ha kf_X11_42 dX11_settles_60 (fun hk54 => ?_)
      refine lv_aload_n hx hb dX11_settles_63 rfl (lv_at hl 0 rfl) ?_
      refine gX11_2 S hK hT ha kf_X11_15 dX11_settles_64 (fun hk55 => ?_)
      refine lv_iconst (v := 0) hx hb dX11_settles_67 (by decide) ?_
      refine x_cv0 (x_runV (b := a) (As := [.ref (F a 13), .ref (F a 2), .int 0]) (rest := []) S (c_X11_layStates l E K F tl z0 z1 z2 u1 u2 z5 z6 z7 z8 z9 z10 z11 z12 z13 u3 u4 z16 z17 z18 z19 z20 ar0 ar1 f5 f6 f7 ar5 ar6 ar7 ar8 ar9 ar10 a (F a 13) (F a 2) 0 ha hk54 (XO.b hk55 (by decide)) hR) mv_X11_layStates km_X11_210 rfl rfl ⟨Nat.le_of_ble_eq_true rfl, Nat.le_of_ble_eq_true rfl⟩ (rc_13 hK hT ha) hK (fun _ => XP.blind) (fun U hU hW => XP.at hK hz hS hT hU hW) rfl hl.1 (Nat.le_of_ble_eq_true rfl) dX11_settles_68 ⟨Nat.le_of_ble_eq_true rfl, Nat.le_of_ble_eq_true rfl⟩) hS ?_
      rintro _ H locs - hT hS
      refine lv_aload_n hx hb dX11_settles_71 rfl (lv_at hl 0 rfl) ?_
      refine lv_aload_n hx hb dX11_settles_72 rfl (lv_at hl 0 rfl) ?_
      refine gX11_12 S hK hT ha kf_X11_39 dX11_settles_73 (fun hk58 => ?_)
      refine lv_aload_n hx hb dX11_settles_76 rfl (lv_at hl 0 rfl) ?_
      refine gX11_11 S hK hT ha kf_X11_36 dX11_settles_77 (fun hk59 => ?_)
      refine lv_iconst (v := 1) hx hb dX11_settles_80 (by decide) ?_
      refine x_cv0 (x_runV (b := a) (As := [.ref (F a 12), .ref (F a 11), .int 1]) (rest := []) S (c_X11_moves l E K F tl z0 z1 z2 u1 u2 z5 z6 z7 z8 z9 z10 z11 z12 z13 u3 u4 z16 z17 z18 z19 z20 ar0 ar1 f5 f6 f7 ar5 ar6 ar7 ar8 ar9 ar10 a (F a 12) (F a 11) 1 ha hk58 hk59 hR (by decide)) mv_X11_moves km_X11_334 rfl rfl ⟨Nat.le_of_ble_eq_true rfl, Nat.le_of_ble_eq_true rfl⟩ (rc_13 hK hT ha) hK (fun _ => XP.blind) (fun U hU hW => XP.at hK hz hS hT hU hW) rfl hl.1 (Nat.le_of_ble_eq_true rfl) dX11_settles_81 ⟨Nat.le_of_ble_eq_true rfl, Nat.le_of_ble_eq_true rfl⟩) hS ?_
      rintro _ H locs - hT hS
      refine lv_aload_n hx hb dX11_settles_84 rfl (lv_at hl 0 rfl) ?_
      refine gX11_45 S hK hT ha kf_X11_316 dX11_settles_85 (v := u3) rfl ?_
      exact x_ri hx hb hr hlk hQ (Nat.le_of_ble_eq_true rfl) (Nat.le_of_ble_eq_true rfl) hS dX11_settles_88 (u1, u2, z5, z6, z7, z12, z13, u3, u4, ar0, f5, f6, f7) ⟨_, rfl, (z_X11_settles_7 z12.toInt z7.toInt e0 e1 (xr z12) (xr z7))⟩ hT.nil
  · refine lv_aload_n hx hb dX11_settles_8 rfl (lv_at hl 0 rfl) ?_
    refine gX11_9 S hK hT ha kf_X11_30 dX11_settles_9 (fun hk62 => ?_)
    refine lv_iconst (v := 0) hx hb dX11_settles_12 (by decide) ?_
    refine lv_dup2_11 hx hb dX11_settles_13 rfl rfl ?_
    refine al_0 S hK hT hk62 ar_36 (by decide) (by decide) dX11_settles_14 (fun x63 o64 => ?_)
    refine lv_aload_n hx hb dX11_settles_15 rfl (lv_at hl 0 rfl) ?_
    refine gX11_46 S hK hT ha kf_X11_322 dX11_settles_16 (v := u4) rfl ?_
    refine lv_iconst (v := 1) hx hb dX11_settles_19 (by decide) ?_
    refine xi_iadd hx hb (rfl : Int32.toInt u4 = u4.toInt) ((by decide) : Int32.toInt 1 = (1 : Int)) dX11_settles_20 (fun x65 t66 => ?_)
    refine xi_iadd hx hb (rfl : Int32.toInt x63 = x63.toInt) (rfl : Int32.toInt x65 = x65.toInt) dX11_settles_21 (fun x67 t68 => ?_)
    refine as_0 S hK hT hS hk62 ar_36 aw_36 (by decide) (by decide) dX11_settles_22 (fun H locs hT hS => ?_)
    refine lv_aload_n hx hb dX11_settles_23 rfl (lv_at hl 0 rfl) ?_
    refine x_cl0 (x_runV (b := a) (As := []) (rest := []) S (c_X11_goesBack l E K F tl z0 z1 z2 u1 u2 z5 z6 z7 z8 z9 z10 z11 z12 z13 u3 u4 z16 z17 z18 z19 z20 ar0 ar1 f5 f6 f7 ar5 ar6 ar7 ar8 ar9 ar10 a ha hR (z_X11_settles_8 u2.toInt u4.toInt x63.toInt x65.toInt x67.toInt x9.toInt (fV ar1 f6 f7) t8 c11 t66 t68 (xr u2) (xr u4) (xr x63) (xr x65) (xr x67) (xr x9)) (z_X11_settles_9 u2.toInt u4.toInt x63.toInt x65.toInt x67.toInt x9.toInt (fV ar1 f6 f7) t8 c11 t66 t68 (xr u2) (xr u4) (xr x63) (xr x65) (xr x67) (xr x9))) mv_X11_goesBack km_X11_331 rfl rfl ⟨Nat.le_of_ble_eq_true rfl, Nat.le_of_ble_eq_true rfl⟩ (rc_13 hK hT ha) hK (fun _ => XP.blind) (fun U hU hW => XP.at hK hz hS hT hU hW) rfl hl.1 (Nat.le_of_ble_eq_true rfl) dX11_settles_24 ⟨Nat.le_of_ble_eq_true rfl, Nat.le_of_ble_eq_true rfl⟩) hS ?_
    rintro _ ⟨u69, u70, u71, f72⟩ H locs ⟨x74, rfl, t73⟩ hT hS
    have hT : TW E K F (tl, [z0, z1, z2, u1, u2, u69, u70, u71, z8, z9, z10, z11, z12, z13, u3, u4, z16, z17, z18, z19, z20], [f72, ar1, f5, f6, f7, ar5, ar6, ar7, ar8, ar9, ar10]) [] H := hT
    have t73 : 0 ≤ u71.toInt ∧ u71.toInt ≤ 24 := t73
    exact x_ri hx hb hr hlk hQ (Nat.le_of_ble_eq_true rfl) (Nat.le_of_ble_eq_true rfl) hS dX11_settles_27 (u1, u2, u69, u70, u71, z12, z13, u3, u4, f72, f5, f6, f7) ⟨_, rfl, (z_X11_settles_10 u71.toInt z12.toInt e1 t73 (xr u71) (xr z12))⟩ hT.nil

theorem z_X11_put_1 (a0 : Int) (a1 : Int) (h0 : 0 ≤ a1 ∧ a1 ≤ 2400) (h1 : a0 = 0) (r0 : -2147483648 ≤ a0 ∧ a0 < 2147483648) (r1 : -2147483648 ≤ a1 ∧ a1 < 2147483648) : 0 ≤ a0 ∧ a0 ≤ 24 ∧ 0 ≤ a1 ∧ a1 ≤ 2400 := by omega
theorem z_X11_put_2 (a0 : Int) (a1 : Int) (a2 : Int) (a3 : Int) (a4 : Int) (a5 : Int) (a6 : Int) (h0 : (a5 = 1 ∧ 0 ≤ a0 ∧ a0 ≤ 2) ∨ (a5 = 0 ∧ (a0 < 0 ∨ 2 < a0))) (h1 : a5 = 0 ∨ a5 = 1) (h2 : ¬ (a5 = 0)) (h3 : (a2 = 1 ∧ 0 ≤ a1 ∧ a1 ≤ 29) ∨ (a2 = 0 ∧ (a1 < 0 ∨ 29 < a1))) (h4 : a2 = 0 ∨ a2 = 1) (h5 : ¬ (a2 = 0)) (h6 : a3 = 0 ∨ (a3 = 1 ∧ 0 ≤ a0 ∧ a0 ≤ 2 ∧ 0 ≤ a1 ∧ a1 ≤ 29 ∧ a6 = 1)) (h7 : a3 = 0 ∨ a3 = 1) (h8 : a3 = 0) (h9 : 0 ≤ a0 ∧ a0 ≤ 2 ∧ 0 ≤ a1 ∧ a1 ≤ 29 → a4 = 4 * (30 * a0 + a1)) (r0 : -2147483648 ≤ a0 ∧ a0 < 2147483648) (r1 : -2147483648 ≤ a1 ∧ a1 < 2147483648) (r2 : -2147483648 ≤ a2 ∧ a2 < 2147483648) (r3 : -2147483648 ≤ a3 ∧ a3 < 2147483648) (r4 : -2147483648 ≤ a4 ∧ a4 < 2147483648) (r5 : -2147483648 ≤ a5 ∧ a5 < 2147483648) : 0 ≤ a4 ∧ a4 < ((360 : Nat) : Int) := by omega
theorem z_X11_put_3 (a0 : Int) (a1 : Int) (a2 : Int) (a3 : Int) (a4 : Int) (a5 : Int) (a6 : Int) (a7 : Int) (h0 : (a6 = 1 ∧ 0 ≤ a0 ∧ a0 ≤ 2) ∨ (a6 = 0 ∧ (a0 < 0 ∨ 2 < a0))) (h1 : a6 = 0 ∨ a6 = 1) (h2 : ¬ (a6 = 0)) (h3 : (a2 = 1 ∧ 0 ≤ a1 ∧ a1 ≤ 29) ∨ (a2 = 0 ∧ (a1 < 0 ∨ 29 < a1))) (h4 : a2 = 0 ∨ a2 = 1) (h5 : ¬ (a2 = 0)) (h6 : a3 = 0 ∨ (a3 = 1 ∧ 0 ≤ a0 ∧ a0 ≤ 2 ∧ 0 ≤ a1 ∧ a1 ≤ 29 ∧ a7 = 1)) (h7 : a3 = 0 ∨ a3 = 1) (h8 : a3 = 0) (h9 : 0 ≤ a0 ∧ a0 ≤ 2 ∧ 0 ≤ a1 ∧ a1 ≤ 29 → a4 = 4 * (30 * a0 + a1)) (h10 : a5 = a4 + (1 : Int) ∨ a4 + (1 : Int) < -2147483648 ∨ 2147483648 ≤ a4 + (1 : Int)) (r0 : -2147483648 ≤ a0 ∧ a0 < 2147483648) (r1 : -2147483648 ≤ a1 ∧ a1 < 2147483648) (r2 : -2147483648 ≤ a2 ∧ a2 < 2147483648) (r3 : -2147483648 ≤ a3 ∧ a3 < 2147483648) (r4 : -2147483648 ≤ a4 ∧ a4 < 2147483648) (r5 : -2147483648 ≤ a5 ∧ a5 < 2147483648) (r6 : -2147483648 ≤ a6 ∧ a6 < 2147483648) : 0 ≤ a5 ∧ a5 < ((360 : Nat) : Int) := by omega
theorem z_X11_put_4 (a0 : Int) (a1 : Int) (a2 : Int) (a3 : Int) (a4 : Int) (a5 : Int) (a6 : Int) (a7 : Int) (a8 : Int) (h0 : (a7 = 1 ∧ 0 ≤ a0 ∧ a0 ≤ 2) ∨ (a7 = 0 ∧ (a0 < 0 ∨ 2 < a0))) (h1 : a7 = 0 ∨ a7 = 1) (h2 : ¬ (a7 = 0)) (h3 : (a2 = 1 ∧ 0 ≤ a1 ∧ a1 ≤ 29) ∨ (a2 = 0 ∧ (a1 < 0 ∨ 29 < a1))) (h4 : a2 = 0 ∨ a2 = 1) (h5 : ¬ (a2 = 0)) (h6 : a3 = 0 ∨ (a3 = 1 ∧ 0 ≤ a0 ∧ a0 ≤ 2 ∧ 0 ≤ a1 ∧ a1 ≤ 29 ∧ a8 = 1)) (h7 : a3 = 0 ∨ a3 = 1) (h8 : a3 = 0) (h9 : 0 ≤ a0 ∧ a0 ≤ 2 ∧ 0 ≤ a1 ∧ a1 ≤ 29 → a4 = 4 * (30 * a0 + a1)) (h10 : a5 = a4 + (1 : Int) ∨ a4 + (1 : Int) < -2147483648 ∨ 2147483648 ≤ a4 + (1 : Int)) (h11 : a6 = a4 + (2 : Int) ∨ a4 + (2 : Int) < -2147483648 ∨ 2147483648 ≤ a4 + (2 : Int)) (r0 : -2147483648 ≤ a0 ∧ a0 < 2147483648) (r1 : -2147483648 ≤ a1 ∧ a1 < 2147483648) (r2 : -2147483648 ≤ a2 ∧ a2 < 2147483648) (r3 : -2147483648 ≤ a3 ∧ a3 < 2147483648) (r4 : -2147483648 ≤ a4 ∧ a4 < 2147483648) (r5 : -2147483648 ≤ a5 ∧ a5 < 2147483648) (r6 : -2147483648 ≤ a6 ∧ a6 < 2147483648) (r7 : -2147483648 ≤ a7 ∧ a7 < 2147483648) : 0 ≤ a6 ∧ a6 < ((360 : Nat) : Int) := by omega
theorem z_X11_put_5 (a0 : Int) (a1 : Int) (a2 : Int) (a3 : Int) (a4 : Int) (a5 : Int) (a6 : Int) (a7 : Int) (a8 : Int) (a9 : Int) (h0 : (a8 = 1 ∧ 0 ≤ a0 ∧ a0 ≤ 2) ∨ (a8 = 0 ∧ (a0 < 0 ∨ 2 < a0))) (h1 : a8 = 0 ∨ a8 = 1) (h2 : ¬ (a8 = 0)) (h3 : (a2 = 1 ∧ 0 ≤ a1 ∧ a1 ≤ 29) ∨ (a2 = 0 ∧ (a1 < 0 ∨ 29 < a1))) (h4 : a2 = 0 ∨ a2 = 1) (h5 : ¬ (a2 = 0)) (h6 : a3 = 0 ∨ (a3 = 1 ∧ 0 ≤ a0 ∧ a0 ≤ 2 ∧ 0 ≤ a1 ∧ a1 ≤ 29 ∧ a9 = 1)) (h7 : a3 = 0 ∨ a3 = 1) (h8 : a3 = 0) (h9 : 0 ≤ a0 ∧ a0 ≤ 2 ∧ 0 ≤ a1 ∧ a1 ≤ 29 → a4 = 4 * (30 * a0 + a1)) (h10 : a5 = a4 + (1 : Int) ∨ a4 + (1 : Int) < -2147483648 ∨ 2147483648 ≤ a4 + (1 : Int)) (h11 : a6 = a4 + (2 : Int) ∨ a4 + (2 : Int) < -2147483648 ∨ 2147483648 ≤ a4 + (2 : Int)) (h12 : a7 = a4 + (3 : Int) ∨ a4 + (3 : Int) < -2147483648 ∨ 2147483648 ≤ a4 + (3 : Int)) (r0 : -2147483648 ≤ a0 ∧ a0 < 2147483648) (r1 : -2147483648 ≤ a1 ∧ a1 < 2147483648) (r2 : -2147483648 ≤ a2 ∧ a2 < 2147483648) (r3 : -2147483648 ≤ a3 ∧ a3 < 2147483648) (r4 : -2147483648 ≤ a4 ∧ a4 < 2147483648) (r5 : -2147483648 ≤ a5 ∧ a5 < 2147483648) (r6 : -2147483648 ≤ a6 ∧ a6 < 2147483648) (r7 : -2147483648 ≤ a7 ∧ a7 < 2147483648) (r8 : -2147483648 ≤ a8 ∧ a8 < 2147483648) : 0 ≤ a7 ∧ a7 < ((360 : Nat) : Int) := by omega
theorem z_X11_put_6 (a0 : Int) (h0 : a0 = 0) (r0 : -2147483648 ≤ a0 ∧ a0 < 2147483648) : 0 ≤ a0 ∧ a0 ≤ 24 := by omega
theorem z_X11_put_7 (a0 : Int) (h0 : 0 ≤ a0 ∧ a0 ≤ 2400) (r0 : -2147483648 ≤ a0 ∧ a0 < 2147483648) : 0 ≤ a0 ∧ a0 ≤ 2400 := by omega
theorem z_X11_put_8 (a0 : Int) (a1 : Int) (h0 : 0 ≤ a0 ∧ a0 ≤ 24 ∧ 0 ≤ a1 ∧ a1 ≤ 2400) (r0 : -2147483648 ≤ a0 ∧ a0 < 2147483648) (r1 : -2147483648 ≤ a1 ∧ a1 < 2147483648) : 0 ≤ a0 ∧ a0 ≤ 24 ∧ 0 ≤ a1 ∧ a1 ≤ 2400 := by omega
theorem z_X11_put_9 (a0 : Int) (a1 : Int) (h0 : 0 ≤ a1 ∧ a1 ≤ 2400) (h1 : a0 = 0) (r0 : -2147483648 ≤ a0 ∧ a0 < 2147483648) (r1 : -2147483648 ≤ a1 ∧ a1 < 2147483648) : 0 ≤ a0 ∧ a0 ≤ 24 ∧ 0 ≤ a1 ∧ a1 ≤ 2400 := by omega
abbrev rm_X11_put : Room := { frames := 8, cells := 0, slots := 0, locals := 186 }
set_option maxHeartbeats 4000000 in
set_option maxRecDepth 100000 in
theorem c_X11_put (l : Launch) (E : XE) (K : Nat → Nat) (F : Nat → Nat → Nat) (tl z0 z1 z2 z3 z4 z5 z6 z7 z8 z9 z10 z11 z12 z13 z14 z15 z16 z17 z18 z19 z20 : Int32) (ar0 ar1 ar2 ar3 ar4 ar5 ar6 ar7 ar8 ar9 ar10 : Nat → Int32) (a : Nat) (p0 : Int32) (p1 : Int32) (p2 : Int32) (p3 : Int32) (p4 : Int32) (ha : K a = 13) (hR : RV ar1) (e0 : 0 ≤ z7.toInt ∧ z7.toInt ≤ 24) (e1 : 0 ≤ z12.toInt ∧ z12.toInt ≤ 2400) : Met l yX11_put (xw yX11_put cX11_put 7 (some .int)) rm_X11_put (va_Pc [.ref a, .int p0, .int p1, .int p2, .int p3, .int p4] (XP E K F (tl, [z0, z1, z2, z3, z4, z5, z6, z7, z8, z9, z10, z11, z12, z13, z14, z15, z16, z17, z18, z19, z20], [ar0, ar1, ar2, ar3, ar4, ar5, ar6, ar7, ar8, ar9, ar10]))) (XQ E (fun v (u : Int32 × Int32 × Int32 × Int32 × Int32 × Int32 × Int32 × Int32 × Int32 × Int32 × (Nat → Int32) × (Nat → Int32) × (Nat → Int32) × (Nat → Int32)) => ∃ r : Int32, v = .int r ∧ (0 ≤ u.2.2.2.2.2.1.toInt ∧ u.2.2.2.2.2.1.toInt ≤ 24 ∧ 0 ≤ u.2.2.2.2.2.2.1.toInt ∧ u.2.2.2.2.2.2.1.toInt ≤ 2400)) (fun u H => TW E K F (tl, [u.1, z1, z2, u.2.1, u.2.2.1, u.2.2.2.1, u.2.2.2.2.1, u.2.2.2.2.2.1, z8, z9, z10, z11, u.2.2.2.2.2.2.1, u.2.2.2.2.2.2.2.1, u.2.2.2.2.2.2.2.2.1, u.2.2.2.2.2.2.2.2.2.1, z16, z17, z18, z19, z20], [u.2.2.2.2.2.2.2.2.2.2.1, ar1, u.2.2.2.2.2.2.2.2.2.2.2.1, u.2.2.2.2.2.2.2.2.2.2.2.2.1, u.2.2.2.2.2.2.2.2.2.2.2.2.2, ar5, ar6, ar7, ar8, ar9, ar10]) [] H)) 0 0 (xA E) := by
  refine x_enter (by decide) (Nat.le_of_ble_eq_true rfl) ?_
  intro p e s m args below meth c Q S hr hlk hnm hQ hP ls hl
  obtain ⟨hz, hK, hT⟩ := hP
  obtain ⟨hx, hb, -, -, -⟩ := id S
  obtain ⟨H, hT, hS, hgo⟩ : ∃ H : Heap, TW E K F (tl, [z0, z1, z2, z3, z4, z5, z6, z7, z8, z9, z10, z11, z12, z13, z14, z15, z16, z17, z18, z19, z20], [ar0, ar1, ar2, ar3, ar4, ar5, ar6, ar7, ar8, ar9, ar10]) [] H ∧ va_S (xA E) s.heap H [] ∧ H = s.heap := ⟨_, hT, va_S.rf, rfl⟩
  rw [← hgo]
  have hl : lv_has ls 7 [(0, .ref a), (1, .int p0), (2, .int p1), (3, .int p2), (4, .int p3), (5, .int p4)] := hl
  refine lv_aload_n hx hb dX11_put_0 rfl (lv_at hl 0 rfl) ?_
  refine lv_iconst (v := 0) hx hb dX11_put_1 (by decide) ?_
  refine pX11_0 (kq := []) (v := 0) S hK hT hS ha kf_X11_134 (Nat.le_of_ble_eq_true rfl) dX11_put_2 (fun _ h => by cases h) (fun H locs hT hS => ?_)
  have hT : TW E K F (tl, [0, z1, z2, z3, z4, z5, z6, z7, z8, z9, z10, z11, z12, z13, z14, z15, z16, z17, z18, z19, z20], [ar0, ar1, ar2, ar3, ar4, ar5, ar6, ar7, ar8, ar9, ar10]) [] H := hT
  refine lv_aload_n hx hb dX11_put_5 rfl (lv_at hl 0 rfl) ?_
  refine x_cv0 (x_runV (b := a) (As := []) (rest := []) S (c_X11_nothing l E K F tl 0 z1 z2 z3 z4 z5 z6 z7 z8 z9 z10 z11 z12 z13 z14 z15 z16 z17 z18 z19 z20 ar0 ar1 ar2 ar3 ar4 ar5 ar6 ar7 ar8 ar9 ar10 a ha) mv_X11_nothing km_X11_231 rfl rfl ⟨Nat.le_of_ble_eq_true rfl, Nat.le_of_ble_eq_true rfl⟩ (rc_13 hK hT ha) hK (fun _ => XP.blind) (fun U hU hW => XP.at hK hz hS hT hU hW) rfl hl.1 (Nat.le_of_ble_eq_true rfl) dX11_put_6 ⟨Nat.le_of_ble_eq_true rfl, Nat.le_of_ble_eq_true rfl⟩) hS ?_
  rintro ⟨u1, u2, u3⟩ H locs t4 hT hS
  have hT : TW E K F (tl, [0, z1, z2, z3, z4, u1, u2, u3, z8, z9, z10, z11, z12, z13, z14, z15, z16, z17, z18, z19, z20], [ar0, ar1, ar2, ar3, ar4, ar5, ar6, ar7, ar8, ar9, ar10]) [] H := hT
  have t4 : u3.toInt = 0 := t4
  refine lv_iload_n hx hb dX11_put_9 rfl (lv_at hl 1 rfl) ?_
  refine x_clp (x_runS (As := [.int p0]) (rest := []) S (c_X11_isTable l E K F tl 0 z1 z2 z3 z4 u1 u2 u3 z8 z9 z10 z11 z12 z13 z14 z15 z16 z17 z18 z19 z20 ar0 ar1 ar2 ar3 ar4 ar5 ar6 ar7 ar8 ar9 ar10 H p0) ms_X11_isTable km_X11_149 rfl rfl ⟨Nat.le_of_ble_eq_true rfl, Nat.le_of_ble_eq_true rfl⟩ hK (fun _ => XPh.blind) (fun U hU hW => XPh.at hK hz hS hT hU hW) rfl hl.1 (Nat.le_of_ble_eq_true rfl) dX11_put_10 ⟨Nat.le_of_ble_eq_true rfl, Nat.le_of_ble_eq_true rfl⟩) hS ?_
  rintro _ _ locs ⟨x8, rfl, b9, t7⟩ hS
  have t7 : (x8.toInt = 1 ∧ 0 ≤ p0.toInt ∧ p0.toInt ≤ 2) ∨ (x8.toInt = 0 ∧ (p0.toInt < 0 ∨ 2 < p0.toInt)) := t7
  have J46 : ∀ (H : Heap) (locs : List Loc) (ls : Array Slot), TW E K F (tl, [0, z1, z2, z3, z4, u1, u2, u3, z8, z9, z10, z11, z12, z13, z14, z15, z16, z17, z18, z19, z20], [ar0, ar1, ar2, ar3, ar4, ar5, ar6, ar7, ar8, ar9, ar10]) [] H → va_S (xA E) s.heap H locs → lv_has ls 7 [(0, .ref a)] → W p l e rm_X11_put s m args below meth c H locs 0 0 Q (F0 m 46 ls []) := by
    intro H locs ls hT hS hl
    refine lv_aload_n hx hb dX11_put_46 rfl (lv_at hl 0 rfl) ?_
    refine lv_iconst (v := (-1)) hx hb dX11_put_47 (by decide) ?_
    refine x_cl0 (x_runV (b := a) (As := [.int (-1)]) (rest := []) S (c_X11_refuses l E K F tl 0 z1 z2 z3 z4 u1 u2 u3 z8 z9 z10 z11 z12 z13 z14 z15 z16 z17 z18 z19 z20 ar0 ar1 ar2 ar3 ar4 ar5 ar6 ar7 ar8 ar9 ar10 a (-1) ha) mv_X11_refuses km_X11_325 rfl rfl ⟨Nat.le_of_ble_eq_true rfl, Nat.le_of_ble_eq_true rfl⟩ (rc_13 hK hT ha) hK (fun _ => XP.blind) (fun U hU hW => XP.at hK hz hS hT hU hW) rfl hl.1 (Nat.le_of_ble_eq_true rfl) dX11_put_48 ⟨Nat.le_of_ble_eq_true rfl, Nat.le_of_ble_eq_true rfl⟩) hS ?_
    rintro _ _ H locs ⟨x10, rfl⟩ hT hS
    exact x_ri hx hb hr hlk hQ (Nat.le_of_ble_eq_true rfl) (Nat.le_of_ble_eq_true rfl) hS dX11_put_51 (0, z3, z4, u1, u2, u3, z12, z13, z14, z15, ar0, ar2, ar3, ar4) ⟨_, rfl, (z_X11_put_1 u3.toInt z12.toInt e1 t4 (xr u3) (xr z12))⟩ hT.nil
  refine xi_zeq (tgt := 46) hx hb (rfl : Int32.toInt x8 = x8.toInt) dX11_put_13 (by decide) (fun c12 => ?_) (fun c12 => ?_)
  · exact J46 _ _ _ hT.nil hS (lv_sub hl [0] rfl)
  · refine lv_iload_n hx hb dX11_put_16 rfl (lv_at hl 2 rfl) ?_
    refine x_clp (x_runS (As := [.int p1]) (rest := []) S (c_X11_isKey l E K F tl 0 z1 z2 z3 z4 u1 u2 u3 z8 z9 z10 z11 z12 z13 z14 z15 z16 z17 z18 z19 z20 ar0 ar1 ar2 ar3 ar4 ar5 ar6 ar7 ar8 ar9 ar10 H p1) ms_X11_isKey km_X11_153 rfl rfl ⟨Nat.le_of_ble_eq_true rfl, Nat.le_of_ble_eq_true rfl⟩ hK (fun _ => XPh.blind) (fun U hU hW => XPh.at hK hz hS hT hU hW) rfl hl.1 (Nat.le_of_ble_eq_true rfl) dX11_put_17 ⟨Nat.le_of_ble_eq_true rfl, Nat.le_of_ble_eq_true rfl⟩) hS ?_
    rintro _ _ locs ⟨x14, rfl, b15, t13⟩ hS
    have t13 : (x14.toInt = 1 ∧ 0 ≤ p1.toInt ∧ p1.toInt ≤ 29) ∨ (x14.toInt = 0 ∧ (p1.toInt < 0 ∨ 29 < p1.toInt)) := t13
    refine xi_zeq (tgt := 46) hx hb (rfl : Int32.toInt x14 = x14.toInt) dX11_put_20 (by decide) (fun c16 => ?_) (fun c16 => ?_)
    · exact J46 _ _ _ hT.nil hS (lv_sub hl [0] rfl)
    · refine lv_iload_n hx hb dX11_put_23 rfl (lv_at hl 3 rfl) ?_
      refine x_clp (x_runS (As := [.int p2]) (rest := []) S (c_X11_isValue l E K F tl 0 z1 z2 z3 z4 u1 u2 u3 z8 z9 z10 z11 z12 z13 z14 z15 z16 z17 z18 z19 z20 ar0 ar1 ar2 ar3 ar4 ar5 ar6 ar7 ar8 ar9 ar10 H p2) ms_X11_isValue km_X11_343 rfl rfl ⟨Nat.le_of_ble_eq_true rfl, Nat.le_of_ble_eq_true rfl⟩ hK (fun _ => XPh.blind) (fun U hU hW => XPh.at hK hz hS hT hU hW) rfl hl.1 (Nat.le_of_ble_eq_true rfl) dX11_put_24 ⟨Nat.le_of_ble_eq_true rfl, Nat.le_of_ble_eq_true rfl⟩) hS ?_
      rintro _ _ locs ⟨x17, rfl, b18⟩ hS
      refine xi_zeq (tgt := 46) hx hb (rfl : Int32.toInt x17 = x17.toInt) dX11_put_27 (by decide) (fun c19 => ?_) (fun c19 => ?_)
      · exact J46 _ _ _ hT.nil hS (lv_sub hl [0] rfl)
      · refine lv_iload hx hb dX11_put_30 (lv_at hl 4 rfl) ?_
        refine x_clp (x_runS (As := [.int p3]) (rest := []) S (c_X11_isValue l E K F tl 0 z1 z2 z3 z4 u1 u2 u3 z8 z9 z10 z11 z12 z13 z14 z15 z16 z17 z18 z19 z20 ar0 ar1 ar2 ar3 ar4 ar5 ar6 ar7 ar8 ar9 ar10 H p3) ms_X11_isValue km_X11_343 rfl rfl ⟨Nat.le_of_ble_eq_true rfl, Nat.le_of_ble_eq_true rfl⟩ hK (fun _ => XPh.blind) (fun U hU hW => XPh.at hK hz hS hT hU hW) rfl hl.1 (Nat.le_of_ble_eq_true rfl) dX11_put_32 ⟨Nat.le_of_ble_eq_true rfl, Nat.le_of_ble_eq_true rfl⟩) hS ?_
        rintro _ _ locs ⟨x20, rfl, b21⟩ hS
        refine xi_zeq (tgt := 46) hx hb (rfl : Int32.toInt x20 = x20.toInt) dX11_put_35 (by decide) (fun c22 => ?_) (fun c22 => ?_)
        · exact J46 _ _ _ hT.nil hS (lv_sub hl [0] rfl)
        · refine lv_iload hx hb dX11_put_38 (lv_at hl 5 rfl) ?_
          refine x_clp (x_runS (As := [.int p4]) (rest := []) S (c_X11_isValue l E K F tl 0 z1 z2 z3 z4 u1 u2 u3 z8 z9 z10 z11 z12 z13 z14 z15 z16 z17 z18 z19 z20 ar0 ar1 ar2 ar3 ar4 ar5 ar6 ar7 ar8 ar9 ar10 H p4) ms_X11_isValue km_X11_343 rfl rfl ⟨Nat.le_of_ble_eq_true rfl, Nat.le_of_ble_eq_true rfl⟩ hK (fun _ => XPh.blind) (fun U hU hW => XPh.at hK hz hS hT hU hW) rfl hl.1 (Nat.le_of_ble_eq_true rfl) dX11_put_40 ⟨Nat.le_of_ble_eq_true rfl, Nat.le_of_ble_eq_true rfl⟩) hS ?_
          rintro _ _ locs ⟨x23, rfl, b24⟩ hS
          refine xi_zne (tgt := 52) hx hb (rfl : Int32.toInt x23 = x23.toInt) dX11_put_43 (by decide) (fun c25 => ?_) (fun c25 => ?_)
          · refine lv_aload_n hx hb dX11_put_52 rfl (lv_at hl 0 rfl) ?_
            refine lv_iload_n hx hb dX11_put_53 rfl (lv_at hl 1 rfl) ?_
            refine lv_iload_n hx hb dX11_put_54 rfl (lv_at hl 2 rfl) ?_
            refine x_clp (x_runV (b := a) (As := [.int p0, .int p1]) (rest := []) S (c_X11_isRow l E K F tl 0 z1 z2 z3 z4 u1 u2 u3 z8 z9 z10 z11 z12 z13 z14 z15 z16 z17 z18 z19 z20 ar0 ar1 ar2 ar3 ar4 ar5 ar6 ar7 ar8 ar9 ar10 H a p0 p1 ha) mv_X11_isRow km_X11_346 rfl rfl ⟨Nat.le_of_ble_eq_true rfl, Nat.le_of_ble_eq_true rfl⟩ (rc_13 hK hT ha) hK (fun _ => XPh.blind) (fun U hU hW => XPh.at hK hz hS hT hU hW) rfl hl.1 (Nat.le_of_ble_eq_true rfl) dX11_put_55 ⟨Nat.le_of_ble_eq_true rfl, Nat.le_of_ble_eq_true rfl⟩) hS ?_
            rintro _ _ locs ⟨x27, rfl, b28, t26⟩ hS
            have t26 : x27.toInt = 0 ∨ (x27.toInt = 1 ∧ 0 ≤ p0.toInt ∧ p0.toInt ≤ 2 ∧ 0 ≤ p1.toInt ∧ p1.toInt ≤ 29 ∧ (aI ar0 (4 * (30 * p0.toInt + p1.toInt))) = 1) := t26
            refine xi_zeq (tgt := 68) hx hb (rfl : Int32.toInt x27 = x27.toInt) dX11_put_58 (by decide) (fun c29 => ?_) (fun c29 => ?_)
            · refine lv_aload_n hx hb dX11_put_68 rfl (lv_at hl 0 rfl) ?_
              refine x_cv0 (x_runV (b := a) (As := []) (rest := []) S (c_X11_start l E K F tl 0 z1 z2 z3 z4 u1 u2 u3 z8 z9 z10 z11 z12 z13 z14 z15 z16 z17 z18 z19 z20 ar0 ar1 ar2 ar3 ar4 ar5 ar6 ar7 ar8 ar9 ar10 a ha hR) mv_X11_start km_X11_350 rfl rfl ⟨Nat.le_of_ble_eq_true rfl, Nat.le_of_ble_eq_true rfl⟩ (rc_13 hK hT ha) hK (fun _ => XP.blind) (fun U hU hW => XP.at hK hz hS hT hU hW) rfl hl.1 (Nat.le_of_ble_eq_true rfl) dX11_put_69 ⟨Nat.le_of_ble_eq_true rfl, Nat.le_of_ble_eq_true rfl⟩) hS ?_
              rintro _ H locs - hT hS
              refine lv_iload_n hx hb dX11_put_72 rfl (lv_at hl 1 rfl) ?_
              refine lv_iload_n hx hb dX11_put_73 rfl (lv_at hl 2 rfl) ?_
              refine x_clp (x_runS (As := [.int p0, .int p1]) (rest := []) S (c_X11_at l E K F tl 0 z1 z2 z3 z4 u1 u2 u3 z8 z9 z10 z11 z12 z13 z14 z15 z16 z17 z18 z19 z20 ar0 ar1 ar2 ar3 ar4 ar5 ar6 ar7 ar8 ar9 ar10 H p0 p1) ms_X11_at km_X11_156 rfl rfl ⟨Nat.le_of_ble_eq_true rfl, Nat.le_of_ble_eq_true rfl⟩ hK (fun _ => XPh.blind) (fun U hU hW => XPh.at hK hz hS hT hU hW) rfl hl.1 (Nat.le_of_ble_eq_true rfl) dX11_put_74 ⟨Nat.le_of_ble_eq_true rfl, Nat.le_of_ble_eq_true rfl⟩) hS ?_
              rintro _ _ locs ⟨x33, rfl, t32⟩ hS
              have t32 : 0 ≤ p0.toInt ∧ p0.toInt ≤ 2 ∧ 0 ≤ p1.toInt ∧ p1.toInt ≤ 29 → x33.toInt = 4 * (30 * p0.toInt + p1.toInt) := t32
              refine lv_istore (lv' := [(6, .int x33), (0, .ref a), (1, .int p0), (2, .int p1), (3, .int p2), (4, .int p3), (5, .int p4)]) hx hb dX11_put_77 hl (by decide) rfl (fun ls hl => ?_)
              refine lv_aload_n hx hb dX11_put_79 rfl (lv_at hl 1 rfl) ?_
              refine gX11_1 S hK hT ha kf_X11_9 dX11_put_80 (fun hk35 => ?_)
              refine lv_iload hx hb dX11_put_83 (lv_at hl 0 rfl) ?_
              refine lv_iconst (v := 1) hx hb dX11_put_85 (by decide) ?_
              refine tst_0 S hK hT hS hk35 (at_30 (f := ar0) rfl) (fun _ => bt_30 (Nat.le_of_ble_eq_true rfl)) (by decide) (by decide) xti_30 (z_X11_put_2 p0.toInt p1.toInt x14.toInt x27.toInt x33.toInt x8.toInt (aI ar0 (4 * (30 * p0.toInt + p1.toInt))) t7 (xbz b9) c12 t13 (xbz b15) c16 t26 (xbz b28) c29 t32 (xr p0) (xr p1) (xr x14) (xr x27) (xr x33) (xr x8)) dX11_put_86 (fun f36 H locs hu37 hT hS => ?_)
              have hT : TW E K F (tl, [0, z1, z2, z3, z4, u1, u2, u3, z8, z9, z10, z11, z12, z13, z14, z15, z16, z17, z18, z19, z20], [f36, ar1, ar2, ar3, ar4, ar5, ar6, ar7, ar8, ar9, ar10]) [] H := hT
              have hu37 : ∀ z : Int, 0 ≤ z → aI f36 z = if z = x33.toInt then (1 : Int) else aI ar0 z := fun z h9 => by have h8 := hu37 z h9; rw [show Int32.toInt 1 = (1 : Int) from by decide] at h8; exact h8
              refine lv_aload_n hx hb dX11_put_87 rfl (lv_at hl 1 rfl) ?_
              refine gX11_1 S hK hT ha kf_X11_9 dX11_put_88 (fun hk38 => ?_)
              refine lv_iload hx hb dX11_put_91 (lv_at hl 0 rfl) ?_
              refine lv_iconst (v := 1) hx hb dX11_put_93 (by decide) ?_
              refine xi_iadd hx hb (rfl : Int32.toInt x33 = x33.toInt) ((by decide) : Int32.toInt 1 = (1 : Int)) dX11_put_94 (fun x39 t40 => ?_)
              refine lv_iload_n hx hb dX11_put_95 rfl (lv_at hl 4 rfl) ?_
              refine tst_0 S hK hT hS hk38 (at_30 (f := f36) rfl) (fun _ => bt_30 (Nat.le_of_ble_eq_true rfl)) (by decide) (by decide) xti_30 (z_X11_put_3 p0.toInt p1.toInt x14.toInt x27.toInt x33.toInt x39.toInt x8.toInt (aI ar0 (4 * (30 * p0.toInt + p1.toInt))) t7 (xbz b9) c12 t13 (xbz b15) c16 t26 (xbz b28) c29 t32 t40 (xr p0) (xr p1) (xr x14) (xr x27) (xr x33) (xr x39) (xr x8)) dX11_put_96 (fun f41 H locs hu42 hT hS => ?_)
              have hT : TW E K F (tl, [0, z1, z2, z3, z4, u1, u2, u3, z8, z9, z10, z11, z12, z13, z14, z15, z16, z17, z18, z19, z20], [f41, ar1, ar2, ar3, ar4, ar5, ar6, ar7, ar8, ar9, ar10]) [] H := hT
              refine lv_aload_n hx hb dX11_put_97 rfl (lv_at hl 1 rfl) ?_
              refine gX11_1 S hK hT ha kf_X11_9 dX11_put_98 (fun hk43 => ?_)
              refine lv_iload hx hb dX11_put_101 (lv_at hl 0 rfl) ?_
              refine lv_iconst (v := 2) hx hb dX11_put_103 (by decide) ?_
              refine xi_iadd hx hb (rfl : Int32.toInt x33 = x33.toInt) ((by decide) : Int32.toInt 2 = (2 : Int)) dX11_put_104 (fun x44 t45 => ?_)
              refine lv_iload hx hb dX11_put_105 (lv_at hl 5 rfl) ?_
              refine tst_0 S hK hT hS hk43 (at_30 (f := f41) rfl) (fun _ => bt_30 (Nat.le_of_ble_eq_true rfl)) (by decide) (by decide) xti_30 (z_X11_put_4 p0.toInt p1.toInt x14.toInt x27.toInt x33.toInt x39.toInt x44.toInt x8.toInt (aI ar0 (4 * (30 * p0.toInt + p1.toInt))) t7 (xbz b9) c12 t13 (xbz b15) c16 t26 (xbz b28) c29 t32 t40 t45 (xr p0) (xr p1) (xr x14) (xr x27) (xr x33) (xr x39) (xr x44) (xr x8)) dX11_put_107 (fun f46 H locs hu47 hT hS => ?_)
              have hT : TW E K F (tl, [0, z1, z2, z3, z4, u1, u2, u3, z8, z9, z10, z11, z12, z13, z14, z15, z16, z17, z18, z19, z20], [f46, ar1, ar2, ar3, ar4, ar5, ar6, ar7, ar8, ar9, ar10]) [] H := hT
              refine lv_aload_n hx hb dX11_put_108 rfl (lv_at hl 1 rfl) ?_
              refine gX11_1 S hK hT ha kf_X11_9 dX11_put_109 (fun hk48 => ?_)
              refine lv_iload hx hb dX11_put_112 (lv_at hl 0 rfl) ?_
              refine lv_iconst (v := 3) hx hb dX11_put_114 (by decide) ?_
              refine xi_iadd hx hb (rfl : Int32.toInt x33 = x33.toInt) ((by decide) : Int32.toInt 3 = (3 : Int)) dX11_put_115 (fun x49 t50 => ?_)
              refine lv_iload hx hb dX11_put_116 (lv_at hl 6 rfl) ?_
              refine tst_0 S hK hT hS hk48 (at_30 (f := f46) rfl) (fun _ => bt_30 (Nat.le_of_ble_eq_true rfl)) (by decide) (by decide) xti_30 (z_X11_put_5 p0.toInt p1.toInt x14.toInt x27.toInt x33.toInt x39.toInt x44.toInt x49.toInt x8.toInt (aI ar0 (4 * (30 * p0.toInt + p1.toInt))) t7 (xbz b9) c12 t13 (xbz b15) c16 t26 (xbz b28) c29 t32 t40 t45 t50 (xr p0) (xr p1) (xr x14) (xr x27) (xr x33) (xr x39) (xr x44) (xr x49) (xr x8)) dX11_put_118 (fun f51 H locs hu52 hT hS => ?_)
              have hT : TW E K F (tl, [0, z1, z2, z3, z4, u1, u2, u3, z8, z9, z10, z11, z12, z13, z14, z15, z16, z17, z18, z19, z20], [f51, ar1, ar2, ar3, ar4, ar5, ar6, ar7, ar8, ar9, ar10]) [] H := hT
              refine lv_aload_n hx hb dX11_put_119 rfl (lv_at hl 1 rfl) ?_
              refine x_cl0 (x_runV (b := a) (As := []) (rest := []) S (c_X11_settles l E K F tl 0 z1 z2 z3 z4 u1 u2 u3 z8 z9 z10 z11 z12 z13 z14 z15 z16 z17 z18 z19 z20 f51 ar1 ar2 ar3 ar4 ar5 ar6 ar7 ar8 ar9 ar10 a ha hR (z_X11_put_6 u3.toInt t4 (xr u3)) (z_X11_put_7 z12.toInt e1 (xr z12))) mv_X11_settles km_X11_353 rfl rfl ⟨Nat.le_of_ble_eq_true rfl, Nat.le_of_ble_eq_true rfl⟩ (rc_13 hK hT ha) hK (fun _ => XP.blind) (fun U hU hW => XP.at hK hz hS hT hU hW) rfl hl.1 (Nat.le_of_ble_eq_true rfl) dX11_put_120 ⟨Nat.le_of_ble_eq_true rfl, Nat.le_of_ble_eq_true rfl⟩) hS ?_
              rintro _ ⟨u53, u54, u55, u56, u57, u58, u59, u60, u61, f62, f63, f64, f65⟩ H locs ⟨x67, rfl, t66⟩ hT hS
              have hT : TW E K F (tl, [0, z1, z2, u53, u54, u55, u56, u57, z8, z9, z10, z11, u58, u59, u60, u61, z16, z17, z18, z19, z20], [f62, ar1, f63, f64, f65, ar5, ar6, ar7, ar8, ar9, ar10]) [] H := hT
              have t66 : 0 ≤ u57.toInt ∧ u57.toInt ≤ 24 ∧ 0 ≤ u58.toInt ∧ u58.toInt ≤ 2400 := t66
              exact x_ri hx hb hr hlk hQ (Nat.le_of_ble_eq_true rfl) (Nat.le_of_ble_eq_true rfl) hS dX11_put_123 (0, u53, u54, u55, u56, u57, u58, u59, u60, u61, f62, f63, f64, f65) ⟨_, rfl, (z_X11_put_8 u57.toInt u58.toInt t66 (xr u57) (xr u58))⟩ hT.nil
            · refine lv_aload_n hx hb dX11_put_61 rfl (lv_at hl 0 rfl) ?_
              refine lv_bipush (v := (-4)) hx hb dX11_put_62 (by decide) ?_
              refine x_cl0 (x_runV (b := a) (As := [.int (-4)]) (rest := []) S (c_X11_refuses l E K F tl 0 z1 z2 z3 z4 u1 u2 u3 z8 z9 z10 z11 z12 z13 z14 z15 z16 z17 z18 z19 z20 ar0 ar1 ar2 ar3 ar4 ar5 ar6 ar7 ar8 ar9 ar10 a (-4) ha) mv_X11_refuses km_X11_325 rfl rfl ⟨Nat.le_of_ble_eq_true rfl, Nat.le_of_ble_eq_true rfl⟩ (rc_13 hK hT ha) hK (fun _ => XP.blind) (fun U hU hW => XP.at hK hz hS hT hU hW) rfl hl.1 (Nat.le_of_ble_eq_true rfl) dX11_put_64 ⟨Nat.le_of_ble_eq_true rfl, Nat.le_of_ble_eq_true rfl⟩) hS ?_
              rintro _ _ H locs ⟨x69, rfl⟩ hT hS
              exact x_ri hx hb hr hlk hQ (Nat.le_of_ble_eq_true rfl) (Nat.le_of_ble_eq_true rfl) hS dX11_put_67 (0, z3, z4, u1, u2, u3, z12, z13, z14, z15, ar0, ar2, ar3, ar4) ⟨_, rfl, (z_X11_put_9 u3.toInt z12.toInt e1 t4 (xr u3) (xr z12))⟩ hT.nil
          · exact J46 _ _ _ hT.nil hS (lv_sub hl [0] rfl)

theorem z_X11_whyNotSet_1 (a0 : Int) (a1 : Int) (a2 : Int) (a3 : Int) (h0 : (a3 = 1 ∧ 0 ≤ a0 ∧ a0 ≤ 2) ∨ (a3 = 0 ∧ (a0 < 0 ∨ 2 < a0))) (h1 : a3 = 0 ∨ a3 = 1) (h2 : a3 = 0) (r0 : -2147483648 ≤ a0 ∧ a0 < 2147483648) (r1 : -2147483648 ≤ a1 ∧ a1 < 2147483648) (r2 : -2147483648 ≤ a2 ∧ a2 < 2147483648) (r3 : -2147483648 ≤ a3 ∧ a3 < 2147483648) : (-1 : Int) = 0 → 0 ≤ a0 ∧ a0 ≤ 2 ∧ 0 ≤ a1 ∧ a1 ≤ 29 ∧ 0 ≤ a2 ∧ a2 ≤ 2 := by omega
theorem z_X11_whyNotSet_2 (a0 : Int) (a1 : Int) (a2 : Int) (a3 : Int) (a4 : Int) (h0 : (a3 = 1 ∧ 0 ≤ a0 ∧ a0 ≤ 2) ∨ (a3 = 0 ∧ (a0 < 0 ∨ 2 < a0))) (h1 : a3 = 0 ∨ a3 = 1) (h2 : ¬ (a3 = 0)) (h3 : (a4 = 1 ∧ 0 ≤ a1 ∧ a1 ≤ 29) ∨ (a4 = 0 ∧ (a1 < 0 ∨ 29 < a1))) (h4 : a4 = 0 ∨ a4 = 1) (h5 : a4 = 0) (r0 : -2147483648 ≤ a0 ∧ a0 < 2147483648) (r1 : -2147483648 ≤ a1 ∧ a1 < 2147483648) (r2 : -2147483648 ≤ a2 ∧ a2 < 2147483648) (r3 : -2147483648 ≤ a3 ∧ a3 < 2147483648) (r4 : -2147483648 ≤ a4 ∧ a4 < 2147483648) : (-1 : Int) = 0 → 0 ≤ a0 ∧ a0 ≤ 2 ∧ 0 ≤ a1 ∧ a1 ≤ 29 ∧ 0 ≤ a2 ∧ a2 ≤ 2 := by omega
theorem z_X11_whyNotSet_3 (a0 : Int) (a1 : Int) (a2 : Int) (a3 : Int) (a4 : Int) (a5 : Int) (h0 : (a4 = 1 ∧ 0 ≤ a0 ∧ a0 ≤ 2) ∨ (a4 = 0 ∧ (a0 < 0 ∨ 2 < a0))) (h1 : a4 = 0 ∨ a4 = 1) (h2 : ¬ (a4 = 0)) (h3 : (a5 = 1 ∧ 0 ≤ a1 ∧ a1 ≤ 29) ∨ (a5 = 0 ∧ (a1 < 0 ∨ 29 < a1))) (h4 : a5 = 0 ∨ a5 = 1) (h5 : ¬ (a5 = 0)) (h6 : (a3 = 1 ∧ 0 ≤ a2 ∧ a2 ≤ 2) ∨ (a3 = 0 ∧ (a2 < 0 ∨ 2 < a2))) (h7 : a3 = 0 ∨ a3 = 1) (h8 : a3 = 0) (r0 : -2147483648 ≤ a0 ∧ a0 < 2147483648) (r1 : -2147483648 ≤ a1 ∧ a1 < 2147483648) (r2 : -2147483648 ≤ a2 ∧ a2 < 2147483648) (r3 : -2147483648 ≤ a3 ∧ a3 < 2147483648) (r4 : -2147483648 ≤ a4 ∧ a4 < 2147483648) (r5 : -2147483648 ≤ a5 ∧ a5 < 2147483648) : (-1 : Int) = 0 → 0 ≤ a0 ∧ a0 ≤ 2 ∧ 0 ≤ a1 ∧ a1 ≤ 29 ∧ 0 ≤ a2 ∧ a2 ≤ 2 := by omega
theorem z_X11_whyNotSet_4 (a0 : Int) (a1 : Int) (a2 : Int) (a3 : Int) (a4 : Int) (a5 : Int) (a6 : Int) (a7 : Int) (a8 : Int) (a9 : Int) (a10 : Int) (h0 : (a5 = 1 ∧ 0 ≤ a0 ∧ a0 ≤ 2) ∨ (a5 = 0 ∧ (a0 < 0 ∨ 2 < a0))) (h1 : a5 = 0 ∨ a5 = 1) (h2 : ¬ (a5 = 0)) (h3 : (a9 = 1 ∧ 0 ≤ a1 ∧ a1 ≤ 29) ∨ (a9 = 0 ∧ (a1 < 0 ∨ 29 < a1))) (h4 : a9 = 0 ∨ a9 = 1) (h5 : ¬ (a9 = 0)) (h6 : (a3 = 1 ∧ 0 ≤ a2 ∧ a2 ≤ 2) ∨ (a3 = 0 ∧ (a2 < 0 ∨ 2 < a2))) (h7 : a3 = 0 ∨ a3 = 1) (h8 : ¬ (a3 = 0)) (h9 : a4 = 0 ∨ (a4 = 1 ∧ 0 ≤ a0 ∧ a0 ≤ 2 ∧ 0 ≤ a1 ∧ a1 ≤ 29 ∧ a10 = 1)) (h10 : a4 = 0 ∨ a4 = 1) (h11 : a4 ≠ 0) (h12 : 0 ≤ a0 ∧ a0 ≤ 2 ∧ 0 ≤ a1 ∧ a1 ≤ 29 → a6 = 4 * (30 * a0 + a1)) (h13 : a7 = a6 + (1 : Int) ∨ a6 + (1 : Int) < -2147483648 ∨ 2147483648 ≤ a6 + (1 : Int)) (h14 : a8 = a7 + a2 ∨ a7 + a2 < -2147483648 ∨ 2147483648 ≤ a7 + a2) (r0 : -2147483648 ≤ a0 ∧ a0 < 2147483648) (r1 : -2147483648 ≤ a1 ∧ a1 < 2147483648) (r2 : -2147483648 ≤ a2 ∧ a2 < 2147483648) (r3 : -2147483648 ≤ a3 ∧ a3 < 2147483648) (r4 : -2147483648 ≤ a4 ∧ a4 < 2147483648) (r5 : -2147483648 ≤ a5 ∧ a5 < 2147483648) (r6 : -2147483648 ≤ a6 ∧ a6 < 2147483648) (r7 : -2147483648 ≤ a7 ∧ a7 < 2147483648) (r8 : -2147483648 ≤ a8 ∧ a8 < 2147483648) (r9 : -2147483648 ≤ a9 ∧ a9 < 2147483648) : 0 ≤ a8 ∧ a8 < ((360 : Nat) : Int) := by omega
theorem z_X11_whyNotSet_5 (a0 : Int) (a1 : Int) (a2 : Int) (a3 : Int) (a4 : Int) (a5 : Int) (a6 : Int) (a7 : Int) (a8 : Int) (a9 : Int) (a10 : Int) (h0 : (a5 = 1 ∧ 0 ≤ a0 ∧ a0 ≤ 2) ∨ (a5 = 0 ∧ (a0 < 0 ∨ 2 < a0))) (h1 : a5 = 0 ∨ a5 = 1) (h2 : ¬ (a5 = 0)) (h3 : (a9 = 1 ∧ 0 ≤ a1 ∧ a1 ≤ 29) ∨ (a9 = 0 ∧ (a1 < 0 ∨ 29 < a1))) (h4 : a9 = 0 ∨ a9 = 1) (h5 : ¬ (a9 = 0)) (h6 : (a3 = 1 ∧ 0 ≤ a2 ∧ a2 ≤ 2) ∨ (a3 = 0 ∧ (a2 < 0 ∨ 2 < a2))) (h7 : a3 = 0 ∨ a3 = 1) (h8 : ¬ (a3 = 0)) (h9 : a4 = 0 ∨ (a4 = 1 ∧ 0 ≤ a0 ∧ a0 ≤ 2 ∧ 0 ≤ a1 ∧ a1 ≤ 29 ∧ a10 = 1)) (h10 : a4 = 0 ∨ a4 = 1) (h11 : a4 ≠ 0) (h12 : 0 ≤ a0 ∧ a0 ≤ 2 ∧ 0 ≤ a1 ∧ a1 ≤ 29 → a6 = 4 * (30 * a0 + a1)) (h13 : a7 = a6 + (1 : Int) ∨ a6 + (1 : Int) < -2147483648 ∨ 2147483648 ≤ a6 + (1 : Int)) (h14 : a8 = a7 + a2 ∨ a7 + a2 < -2147483648 ∨ 2147483648 ≤ a7 + a2) (r0 : -2147483648 ≤ a0 ∧ a0 < 2147483648) (r1 : -2147483648 ≤ a1 ∧ a1 < 2147483648) (r2 : -2147483648 ≤ a2 ∧ a2 < 2147483648) (r3 : -2147483648 ≤ a3 ∧ a3 < 2147483648) (r4 : -2147483648 ≤ a4 ∧ a4 < 2147483648) (r5 : -2147483648 ≤ a5 ∧ a5 < 2147483648) (r6 : -2147483648 ≤ a6 ∧ a6 < 2147483648) (r7 : -2147483648 ≤ a7 ∧ a7 < 2147483648) (r8 : -2147483648 ≤ a8 ∧ a8 < 2147483648) (r9 : -2147483648 ≤ a9 ∧ a9 < 2147483648) : (0 : Int) = 0 → 0 ≤ a0 ∧ a0 ≤ 2 ∧ 0 ≤ a1 ∧ a1 ≤ 29 ∧ 0 ≤ a2 ∧ a2 ≤ 2 := by omega
theorem z_X11_whyNotSet_6 (a0 : Int) (a1 : Int) (a2 : Int) (a3 : Int) (a4 : Int) (a5 : Int) (a6 : Int) (a7 : Int) (a8 : Int) (a9 : Int) (a10 : Int) (h0 : (a5 = 1 ∧ 0 ≤ a0 ∧ a0 ≤ 2) ∨ (a5 = 0 ∧ (a0 < 0 ∨ 2 < a0))) (h1 : a5 = 0 ∨ a5 = 1) (h2 : ¬ (a5 = 0)) (h3 : (a9 = 1 ∧ 0 ≤ a1 ∧ a1 ≤ 29) ∨ (a9 = 0 ∧ (a1 < 0 ∨ 29 < a1))) (h4 : a9 = 0 ∨ a9 = 1) (h5 : ¬ (a9 = 0)) (h6 : (a3 = 1 ∧ 0 ≤ a2 ∧ a2 ≤ 2) ∨ (a3 = 0 ∧ (a2 < 0 ∨ 2 < a2))) (h7 : a3 = 0 ∨ a3 = 1) (h8 : ¬ (a3 = 0)) (h9 : a4 = 0 ∨ (a4 = 1 ∧ 0 ≤ a0 ∧ a0 ≤ 2 ∧ 0 ≤ a1 ∧ a1 ≤ 29 ∧ a10 = 1)) (h10 : a4 = 0 ∨ a4 = 1) (h11 : a4 ≠ 0) (h12 : 0 ≤ a0 ∧ a0 ≤ 2 ∧ 0 ≤ a1 ∧ a1 ≤ 29 → a6 = 4 * (30 * a0 + a1)) (h13 : a7 = a6 + (1 : Int) ∨ a6 + (1 : Int) < -2147483648 ∨ 2147483648 ≤ a6 + (1 : Int)) (h14 : a8 = a7 + a2 ∨ a7 + a2 < -2147483648 ∨ 2147483648 ≤ a7 + a2) (r0 : -2147483648 ≤ a0 ∧ a0 < 2147483648) (r1 : -2147483648 ≤ a1 ∧ a1 < 2147483648) (r2 : -2147483648 ≤ a2 ∧ a2 < 2147483648) (r3 : -2147483648 ≤ a3 ∧ a3 < 2147483648) (r4 : -2147483648 ≤ a4 ∧ a4 < 2147483648) (r5 : -2147483648 ≤ a5 ∧ a5 < 2147483648) (r6 : -2147483648 ≤ a6 ∧ a6 < 2147483648) (r7 : -2147483648 ≤ a7 ∧ a7 < 2147483648) (r8 : -2147483648 ≤ a8 ∧ a8 < 2147483648) (r9 : -2147483648 ≤ a9 ∧ a9 < 2147483648) : (-4 : Int) = 0 → 0 ≤ a0 ∧ a0 ≤ 2 ∧ 0 ≤ a1 ∧ a1 ≤ 29 ∧ 0 ≤ a2 ∧ a2 ≤ 2 := by omega
theorem z_X11_whyNotSet_7 (a0 : Int) (a1 : Int) (a2 : Int) (a3 : Int) (a4 : Int) (a5 : Int) (a6 : Int) (a7 : Int) (h0 : (a5 = 1 ∧ 0 ≤ a0 ∧ a0 ≤ 2) ∨ (a5 = 0 ∧ (a0 < 0 ∨ 2 < a0))) (h1 : a5 = 0 ∨ a5 = 1) (h2 : ¬ (a5 = 0)) (h3 : (a6 = 1 ∧ 0 ≤ a1 ∧ a1 ≤ 29) ∨ (a6 = 0 ∧ (a1 < 0 ∨ 29 < a1))) (h4 : a6 = 0 ∨ a6 = 1) (h5 : ¬ (a6 = 0)) (h6 : (a3 = 1 ∧ 0 ≤ a2 ∧ a2 ≤ 2) ∨ (a3 = 0 ∧ (a2 < 0 ∨ 2 < a2))) (h7 : a3 = 0 ∨ a3 = 1) (h8 : ¬ (a3 = 0)) (h9 : a4 = 0 ∨ (a4 = 1 ∧ 0 ≤ a0 ∧ a0 ≤ 2 ∧ 0 ≤ a1 ∧ a1 ≤ 29 ∧ a7 = 1)) (h10 : a4 = 0 ∨ a4 = 1) (h11 : ¬ (a4 ≠ 0)) (r0 : -2147483648 ≤ a0 ∧ a0 < 2147483648) (r1 : -2147483648 ≤ a1 ∧ a1 < 2147483648) (r2 : -2147483648 ≤ a2 ∧ a2 < 2147483648) (r3 : -2147483648 ≤ a3 ∧ a3 < 2147483648) (r4 : -2147483648 ≤ a4 ∧ a4 < 2147483648) (r5 : -2147483648 ≤ a5 ∧ a5 < 2147483648) (r6 : -2147483648 ≤ a6 ∧ a6 < 2147483648) : (-2 : Int) = 0 → 0 ≤ a0 ∧ a0 ≤ 2 ∧ 0 ≤ a1 ∧ a1 ≤ 29 ∧ 0 ≤ a2 ∧ a2 ≤ 2 := by omega
theorem z_X11_whyNotSet_8 (a0 : Int) (a1 : Int) (a2 : Int) (a3 : Int) (a4 : Int) (a5 : Int) (h0 : (a4 = 1 ∧ 0 ≤ a0 ∧ a0 ≤ 2) ∨ (a4 = 0 ∧ (a0 < 0 ∨ 2 < a0))) (h1 : a4 = 0 ∨ a4 = 1) (h2 : ¬ (a4 = 0)) (h3 : (a5 = 1 ∧ 0 ≤ a1 ∧ a1 ≤ 29) ∨ (a5 = 0 ∧ (a1 < 0 ∨ 29 < a1))) (h4 : a5 = 0 ∨ a5 = 1) (h5 : ¬ (a5 = 0)) (h6 : (a3 = 1 ∧ 0 ≤ a2 ∧ a2 ≤ 2) ∨ (a3 = 0 ∧ (a2 < 0 ∨ 2 < a2))) (h7 : a3 = 0 ∨ a3 = 1) (h8 : ¬ (a3 = 0)) (r0 : -2147483648 ≤ a0 ∧ a0 < 2147483648) (r1 : -2147483648 ≤ a1 ∧ a1 < 2147483648) (r2 : -2147483648 ≤ a2 ∧ a2 < 2147483648) (r3 : -2147483648 ≤ a3 ∧ a3 < 2147483648) (r4 : -2147483648 ≤ a4 ∧ a4 < 2147483648) (r5 : -2147483648 ≤ a5 ∧ a5 < 2147483648) : (-1 : Int) = 0 → 0 ≤ a0 ∧ a0 ≤ 2 ∧ 0 ≤ a1 ∧ a1 ≤ 29 ∧ 0 ≤ a2 ∧ a2 ≤ 2 := by omega
abbrev rm_X11_whyNotSet : Room := { frames := 3, cells := 0, slots := 0, locals := 67 }
set_option maxHeartbeats 4000000 in
set_option maxRecDepth 100000 in
theorem c_X11_whyNotSet (l : Launch) (E : XE) (K : Nat → Nat) (F : Nat → Nat → Nat) (tl z0 z1 z2 z3 z4 z5 z6 z7 z8 z9 z10 z11 z12 z13 z14 z15 z16 z17 z18 z19 z20 : Int32) (ar0 ar1 ar2 ar3 ar4 ar5 ar6 ar7 ar8 ar9 ar10 : Nat → Int32) (h0 : Heap) (a : Nat) (p0 : Int32) (p1 : Int32) (p2 : Int32) (p3 : Int32) (ha : K a = 13) : Met l yX11_whyNotSet (xw yX11_whyNotSet cX11_whyNotSet 5 (some .int)) rm_X11_whyNotSet (va_Pc [.ref a, .int p0, .int p1, .int p2, .int p3] (XPh E K F (tl, [z0, z1, z2, z3, z4, z5, z6, z7, z8, z9, z10, z11, z12, z13, z14, z15, z16, z17, z18, z19, z20], [ar0, ar1, ar2, ar3, ar4, ar5, ar6, ar7, ar8, ar9, ar10]) h0)) (XQ E (fun v (u : Unit) => ∃ r : Int32, v = .int r ∧ (r.toInt = 0 → 0 ≤ p0.toInt ∧ p0.toInt ≤ 2 ∧ 0 ≤ p1.toInt ∧ p1.toInt ≤ 29 ∧ 0 ≤ p2.toInt ∧ p2.toInt ≤ 2)) (fun _ H => H = h0)) 0 0 (xA E) := by
  refine x_enter (by decide) (Nat.le_of_ble_eq_true rfl) ?_
  intro p e s m args below meth c Q S hr hlk hnm hQ hP ls hl
  obtain ⟨⟨hz, hK, hT⟩, hh⟩ := hP
  obtain ⟨hx, hb, -, -, -⟩ := id S
  have hS : va_S (xA E) s.heap s.heap [] := va_S.rf
  have hl : lv_has ls 5 [(0, .ref a), (1, .int p0), (2, .int p1), (3, .int p2), (4, .int p3)] := hl
  refine lv_iload_n hx hb dX11_whyNotSet_0 rfl (lv_at hl 1 rfl) ?_
  refine x_clp (x_runS (As := [.int p0]) (rest := []) S (c_X11_isTable l E K F tl z0 z1 z2 z3 z4 z5 z6 z7 z8 z9 z10 z11 z12 z13 z14 z15 z16 z17 z18 z19 z20 ar0 ar1 ar2 ar3 ar4 ar5 ar6 ar7 ar8 ar9 ar10 s.heap p0) ms_X11_isTable km_X11_149 rfl rfl ⟨Nat.le_of_ble_eq_true rfl, Nat.le_of_ble_eq_true rfl⟩ hK (fun _ => XPh.blind) (fun U hU hW => XPh.at hK hz hS hT hU hW) rfl hl.1 (Nat.le_of_ble_eq_true rfl) dX11_whyNotSet_1 ⟨Nat.le_of_ble_eq_true rfl, Nat.le_of_ble_eq_true rfl⟩) hS ?_
  rintro _ _ locs ⟨x2, rfl, b3, t1⟩ hS
  have t1 : (x2.toInt = 1 ∧ 0 ≤ p0.toInt ∧ p0.toInt ≤ 2) ∨ (x2.toInt = 0 ∧ (p0.toInt < 0 ∨ 2 < p0.toInt)) := t1
  refine xi_zeq (tgt := 29) hx hb (rfl : Int32.toInt x2 = x2.toInt) dX11_whyNotSet_4 (by decide) (fun c4 => ?_) (fun c4 => ?_)
  · refine lv_iconst (v := (-1)) hx hb dX11_whyNotSet_29 (by decide) ?_
    exact x_ri hx hb hr hlk hQ (Nat.le_of_ble_eq_true rfl) (Nat.le_of_ble_eq_true rfl) hS dX11_whyNotSet_30 () ⟨_, rfl, (z_X11_whyNotSet_1 p0.toInt p1.toInt p2.toInt x2.toInt t1 (xbz b3) c4 (xr p0) (xr p1) (xr p2) (xr x2))⟩ hh
  · refine lv_iload_n hx hb dX11_whyNotSet_7 rfl (lv_at hl 2 rfl) ?_
    refine x_clp (x_runS (As := [.int p1]) (rest := []) S (c_X11_isKey l E K F tl z0 z1 z2 z3 z4 z5 z6 z7 z8 z9 z10 z11 z12 z13 z14 z15 z16 z17 z18 z19 z20 ar0 ar1 ar2 ar3 ar4 ar5 ar6 ar7 ar8 ar9 ar10 s.heap p1) ms_X11_isKey km_X11_153 rfl rfl ⟨Nat.le_of_ble_eq_true rfl, Nat.le_of_ble_eq_true rfl⟩ hK (fun _ => XPh.blind) (fun U hU hW => XPh.at hK hz hS hT hU hW) rfl hl.1 (Nat.le_of_ble_eq_true rfl) dX11_whyNotSet_8 ⟨Nat.le_of_ble_eq_true rfl, Nat.le_of_ble_eq_true rfl⟩) hS ?_
    rintro _ _ locs ⟨x6, rfl, b7, t5⟩ hS
    have t5 : (x6.toInt = 1 ∧ 0 ≤ p1.toInt ∧ p1.toInt ≤ 29) ∨ (x6.toInt = 0 ∧ (p1.toInt < 0 ∨ 29 < p1.toInt)) := t5
    refine xi_zeq (tgt := 29) hx hb (rfl : Int32.toInt x6 = x6.toInt) dX11_whyNotSet_11 (by decide) (fun c8 => ?_) (fun c8 => ?_)
    · refine lv_iconst (v := (-1)) hx hb dX11_whyNotSet_29 (by decide) ?_
      exact x_ri hx hb hr hlk hQ (Nat.le_of_ble_eq_true rfl) (Nat.le_of_ble_eq_true rfl) hS dX11_whyNotSet_30 () ⟨_, rfl, (z_X11_whyNotSet_2 p0.toInt p1.toInt p2.toInt x2.toInt x6.toInt t1 (xbz b3) c4 t5 (xbz b7) c8 (xr p0) (xr p1) (xr p2) (xr x2) (xr x6))⟩ hh
    · refine lv_iload_n hx hb dX11_whyNotSet_14 rfl (lv_at hl 3 rfl) ?_
      refine x_clp (x_runS (As := [.int p2]) (rest := []) S (c_X11_isColumn l E K F tl z0 z1 z2 z3 z4 z5 z6 z7 z8 z9 z10 z11 z12 z13 z14 z15 z16 z17 z18 z19 z20 ar0 ar1 ar2 ar3 ar4 ar5 ar6 ar7 ar8 ar9 ar10 s.heap p2) ms_X11_isColumn km_X11_356 rfl rfl ⟨Nat.le_of_ble_eq_true rfl, Nat.le_of_ble_eq_true rfl⟩ hK (fun _ => XPh.blind) (fun U hU hW => XPh.at hK hz hS hT hU hW) rfl hl.1 (Nat.le_of_ble_eq_true rfl) dX11_whyNotSet_15 ⟨Nat.le_of_ble_eq_true rfl, Nat.le_of_ble_eq_true rfl⟩) hS ?_
      rintro _ _ locs ⟨x10, rfl, b11, t9⟩ hS
      have t9 : (x10.toInt = 1 ∧ 0 ≤ p2.toInt ∧ p2.toInt ≤ 2) ∨ (x10.toInt = 0 ∧ (p2.toInt < 0 ∨ 2 < p2.toInt)) := t9
      refine xi_zeq (tgt := 29) hx hb (rfl : Int32.toInt x10 = x10.toInt) dX11_whyNotSet_18 (by decide) (fun c12 => ?_) (fun c12 => ?_)
      · refine lv_iconst (v := (-1)) hx hb dX11_whyNotSet_29 (by decide) ?_
        exact x_ri hx hb hr hlk hQ (Nat.le_of_ble_eq_true rfl) (Nat.le_of_ble_eq_true rfl) hS dX11_whyNotSet_30 () ⟨_, rfl, (z_X11_whyNotSet_3 p0.toInt p1.toInt p2.toInt x10.toInt x2.toInt x6.toInt t1 (xbz b3) c4 t5 (xbz b7) c8 t9 (xbz b11) c12 (xr p0) (xr p1) (xr p2) (xr x10) (xr x2) (xr x6))⟩ hh
      · refine lv_iload hx hb dX11_whyNotSet_21 (lv_at hl 4 rfl) ?_
        refine x_clp (x_runS (As := [.int p3]) (rest := []) S (c_X11_isValue l E K F tl z0 z1 z2 z3 z4 z5 z6 z7 z8 z9 z10 z11 z12 z13 z14 z15 z16 z17 z18 z19 z20 ar0 ar1 ar2 ar3 ar4 ar5 ar6 ar7 ar8 ar9 ar10 s.heap p3) ms_X11_isValue km_X11_343 rfl rfl ⟨Nat.le_of_ble_eq_true rfl, Nat.le_of_ble_eq_true rfl⟩ hK (fun _ => XPh.blind) (fun U hU hW => XPh.at hK hz hS hT hU hW) rfl hl.1 (Nat.le_of_ble_eq_true rfl) dX11_whyNotSet_23 ⟨Nat.le_of_ble_eq_true rfl, Nat.le_of_ble_eq_true rfl⟩) hS ?_
        rintro _ _ locs ⟨x13, rfl, b14⟩ hS
        refine xi_zne (tgt := 31) hx hb (rfl : Int32.toInt x13 = x13.toInt) dX11_whyNotSet_26 (by decide) (fun c15 => ?_) (fun c15 => ?_)
        · refine lv_aload_n hx hb dX11_whyNotSet_31 rfl (lv_at hl 0 rfl) ?_
          refine lv_iload_n hx hb dX11_whyNotSet_32 rfl (lv_at hl 1 rfl) ?_
          refine lv_iload_n hx hb dX11_whyNotSet_33 rfl (lv_at hl 2 rfl) ?_
          refine x_clp (x_runV (b := a) (As := [.int p0, .int p1]) (rest := []) S (c_X11_isRow l E K F tl z0 z1 z2 z3 z4 z5 z6 z7 z8 z9 z10 z11 z12 z13 z14 z15 z16 z17 z18 z19 z20 ar0 ar1 ar2 ar3 ar4 ar5 ar6 ar7 ar8 ar9 ar10 s.heap a p0 p1 ha) mv_X11_isRow km_X11_346 rfl rfl ⟨Nat.le_of_ble_eq_true rfl, Nat.le_of_ble_eq_true rfl⟩ (rc_13 hK hT ha) hK (fun _ => XPh.blind) (fun U hU hW => XPh.at hK hz hS hT hU hW) rfl hl.1 (Nat.le_of_ble_eq_true rfl) dX11_whyNotSet_34 ⟨Nat.le_of_ble_eq_true rfl, Nat.le_of_ble_eq_true rfl⟩) hS ?_
          rintro _ _ locs ⟨x17, rfl, b18, t16⟩ hS
          have t16 : x17.toInt = 0 ∨ (x17.toInt = 1 ∧ 0 ≤ p0.toInt ∧ p0.toInt ≤ 2 ∧ 0 ≤ p1.toInt ∧ p1.toInt ≤ 29 ∧ (aI ar0 (4 * (30 * p0.toInt + p1.toInt))) = 1) := t16
          refine xi_zne (tgt := 43) hx hb (rfl : Int32.toInt x17 = x17.toInt) dX11_whyNotSet_37 (by decide) (fun c19 => ?_) (fun c19 => ?_)
          · refine lv_aload_n hx hb dX11_whyNotSet_43 rfl (lv_at hl 0 rfl) ?_
            refine gX11_1 S hK hT ha kf_X11_9 dX11_whyNotSet_44 (fun hk20 => ?_)
            refine lv_iload_n hx hb dX11_whyNotSet_47 rfl (lv_at hl 1 rfl) ?_
            refine lv_iload_n hx hb dX11_whyNotSet_48 rfl (lv_at hl 2 rfl) ?_
            refine x_clp (x_runS (As := [.int p0, .int p1]) (rest := [.ref (F a 1)]) S (c_X11_at l E K F tl z0 z1 z2 z3 z4 z5 z6 z7 z8 z9 z10 z11 z12 z13 z14 z15 z16 z17 z18 z19 z20 ar0 ar1 ar2 ar3 ar4 ar5 ar6 ar7 ar8 ar9 ar10 s.heap p0 p1) ms_X11_at km_X11_156 rfl rfl ⟨Nat.le_of_ble_eq_true rfl, Nat.le_of_ble_eq_true rfl⟩ hK (fun _ => XPh.blind) (fun U hU hW => XPh.at hK hz hS hT hU hW) rfl hl.1 (Nat.le_of_ble_eq_true rfl) dX11_whyNotSet_49 ⟨Nat.le_of_ble_eq_true rfl, Nat.le_of_ble_eq_true rfl⟩) hS ?_
            rintro _ _ locs ⟨x22, rfl, t21⟩ hS
            have t21 : 0 ≤ p0.toInt ∧ p0.toInt ≤ 2 ∧ 0 ≤ p1.toInt ∧ p1.toInt ≤ 29 → x22.toInt = 4 * (30 * p0.toInt + p1.toInt) := t21
            refine lv_iconst (v := 1) hx hb dX11_whyNotSet_52 (by decide) ?_
            refine xi_iadd hx hb (rfl : Int32.toInt x22 = x22.toInt) ((by decide) : Int32.toInt 1 = (1 : Int)) dX11_whyNotSet_53 (fun x24 t25 => ?_)
            refine lv_iload_n hx hb dX11_whyNotSet_54 rfl (lv_at hl 3 rfl) ?_
            refine xi_iadd hx hb (rfl : Int32.toInt x24 = x24.toInt) (rfl : Int32.toInt p2 = p2.toInt) dX11_whyNotSet_55 (fun x26 t27 => ?_)
            refine tld_0 S hK hT hk20 (at_30 (f := ar0) rfl) (by decide) (z_X11_whyNotSet_4 p0.toInt p1.toInt p2.toInt x10.toInt x17.toInt x2.toInt x22.toInt x24.toInt x26.toInt x6.toInt (aI ar0 (4 * (30 * p0.toInt + p1.toInt))) t1 (xbz b3) c4 t5 (xbz b7) c8 t9 (xbz b11) c12 t16 (xbz b18) c19 t21 t25 t27 (xr p0) (xr p1) (xr p2) (xr x10) (xr x17) (xr x2) (xr x22) (xr x24) (xr x26) (xr x6)) dX11_whyNotSet_56 (fun x28 w29 o30 => ?_)
            refine lv_iload hx hb dX11_whyNotSet_57 (lv_at hl 4 rfl) ?_
            refine xi_cne (tgt := 67) hx hb (rfl : Int32.toInt x28 = x28.toInt) (rfl : Int32.toInt p3 = p3.toInt) dX11_whyNotSet_59 (by decide) (fun c32 => ?_) (fun c32 => ?_)
            · refine lv_iconst (v := 0) hx hb dX11_whyNotSet_67 (by decide) ?_
              exact x_ri hx hb hr hlk hQ (Nat.le_of_ble_eq_true rfl) (Nat.le_of_ble_eq_true rfl) hS dX11_whyNotSet_68 () ⟨_, rfl, (z_X11_whyNotSet_5 p0.toInt p1.toInt p2.toInt x10.toInt x17.toInt x2.toInt x22.toInt x24.toInt x26.toInt x6.toInt (aI ar0 (4 * (30 * p0.toInt + p1.toInt))) t1 (xbz b3) c4 t5 (xbz b7) c8 t9 (xbz b11) c12 t16 (xbz b18) c19 t21 t25 t27 (xr p0) (xr p1) (xr p2) (xr x10) (xr x17) (xr x2) (xr x22) (xr x24) (xr x26) (xr x6))⟩ hh
            · refine lv_bipush (v := (-4)) hx hb dX11_whyNotSet_62 (by decide) ?_
              refine lv_goto (tgt := 68) hx hb dX11_whyNotSet_64 (by decide) ?_
              exact x_ri hx hb hr hlk hQ (Nat.le_of_ble_eq_true rfl) (Nat.le_of_ble_eq_true rfl) hS dX11_whyNotSet_68 () ⟨_, rfl, (z_X11_whyNotSet_6 p0.toInt p1.toInt p2.toInt x10.toInt x17.toInt x2.toInt x22.toInt x24.toInt x26.toInt x6.toInt (aI ar0 (4 * (30 * p0.toInt + p1.toInt))) t1 (xbz b3) c4 t5 (xbz b7) c8 t9 (xbz b11) c12 t16 (xbz b18) c19 t21 t25 t27 (xr p0) (xr p1) (xr p2) (xr x10) (xr x17) (xr x2) (xr x22) (xr x24) (xr x26) (xr x6))⟩ hh
          · refine lv_bipush (v := (-2)) hx hb dX11_whyNotSet_40 (by decide) ?_
            exact x_ri hx hb hr hlk hQ (Nat.le_of_ble_eq_true rfl) (Nat.le_of_ble_eq_true rfl) hS dX11_whyNotSet_42 () ⟨_, rfl, (z_X11_whyNotSet_7 p0.toInt p1.toInt p2.toInt x10.toInt x17.toInt x2.toInt x6.toInt (aI ar0 (4 * (30 * p0.toInt + p1.toInt))) t1 (xbz b3) c4 t5 (xbz b7) c8 t9 (xbz b11) c12 t16 (xbz b18) c19 (xr p0) (xr p1) (xr p2) (xr x10) (xr x17) (xr x2) (xr x6))⟩ hh
        · refine lv_iconst (v := (-1)) hx hb dX11_whyNotSet_29 (by decide) ?_
          exact x_ri hx hb hr hlk hQ (Nat.le_of_ble_eq_true rfl) (Nat.le_of_ble_eq_true rfl) hS dX11_whyNotSet_30 () ⟨_, rfl, (z_X11_whyNotSet_8 p0.toInt p1.toInt p2.toInt x10.toInt x2.toInt x6.toInt t1 (xbz b3) c4 t5 (xbz b7) c8 t9 (xbz b11) c12 (xr p0) (xr p1) (xr p2) (xr x10) (xr x2) (xr x6))⟩ hh

theorem z_X11_set_1 (a0 : Int) (a1 : Int) (a2 : Int) (a3 : Int) (a4 : Int) (a5 : Int) (a6 : Int) (h0 : a6 = 0 → 0 ≤ a0 ∧ a0 ≤ 2 ∧ 0 ≤ a1 ∧ a1 ≤ 29 ∧ 0 ≤ a2 ∧ a2 ≤ 2) (h1 : a6 = 0) (h2 : 0 ≤ a0 ∧ a0 ≤ 2 ∧ 0 ≤ a1 ∧ a1 ≤ 29 → a3 = 4 * (30 * a0 + a1)) (h3 : a4 = a3 + (1 : Int) ∨ a3 + (1 : Int) < -2147483648 ∨ 2147483648 ≤ a3 + (1 : Int)) (h4 : a5 = a4 + a2 ∨ a4 + a2 < -2147483648 ∨ 2147483648 ≤ a4 + a2) (r0 : -2147483648 ≤ a0 ∧ a0 < 2147483648) (r1 : -2147483648 ≤ a1 ∧ a1 < 2147483648) (r2 : -2147483648 ≤ a2 ∧ a2 < 2147483648) (r3 : -2147483648 ≤ a3 ∧ a3 < 2147483648) (r4 : -2147483648 ≤ a4 ∧ a4 < 2147483648) (r5 : -2147483648 ≤ a5 ∧ a5 < 2147483648) (r6 : -2147483648 ≤ a6 ∧ a6 < 2147483648) : 0 ≤ a5 ∧ a5 < ((360 : Nat) : Int) := by omega
theorem z_X11_set_2 (a0 : Int) (h0 : a0 = 0) (r0 : -2147483648 ≤ a0 ∧ a0 < 2147483648) : 0 ≤ a0 ∧ a0 ≤ 24 := by omega
theorem z_X11_set_3 (a0 : Int) (h0 : 0 ≤ a0 ∧ a0 ≤ 2400) (r0 : -2147483648 ≤ a0 ∧ a0 < 2147483648) : 0 ≤ a0 ∧ a0 ≤ 2400 := by omega
theorem z_X11_set_4 (a0 : Int) (a1 : Int) (h0 : 0 ≤ a0 ∧ a0 ≤ 24 ∧ 0 ≤ a1 ∧ a1 ≤ 2400) (r0 : -2147483648 ≤ a0 ∧ a0 < 2147483648) (r1 : -2147483648 ≤ a1 ∧ a1 < 2147483648) : 0 ≤ a0 ∧ a0 ≤ 24 ∧ 0 ≤ a1 ∧ a1 ≤ 2400 := by omega
theorem z_X11_set_5 (a0 : Int) (a1 : Int) (h0 : 0 ≤ a1 ∧ a1 ≤ 2400) (h1 : a0 = 0) (r0 : -2147483648 ≤ a0 ∧ a0 < 2147483648) (r1 : -2147483648 ≤ a1 ∧ a1 < 2147483648) : 0 ≤ a0 ∧ a0 ≤ 24 ∧ 0 ≤ a1 ∧ a1 ≤ 2400 := by omega
abbrev rm_X11_set : Room := { frames := 8, cells := 0, slots := 0, locals := 186 }
set_option maxHeartbeats 4000000 in
set_option maxRecDepth 100000 in
theorem c_X11_set (l : Launch) (E : XE) (K : Nat → Nat) (F : Nat → Nat → Nat) (tl z0 z1 z2 z3 z4 z5 z6 z7 z8 z9 z10 z11 z12 z13 z14 z15 z16 z17 z18 z19 z20 : Int32) (ar0 ar1 ar2 ar3 ar4 ar5 ar6 ar7 ar8 ar9 ar10 : Nat → Int32) (a : Nat) (p0 : Int32) (p1 : Int32) (p2 : Int32) (p3 : Int32) (ha : K a = 13) (hR : RV ar1) (e0 : 0 ≤ z7.toInt ∧ z7.toInt ≤ 24) (e1 : 0 ≤ z12.toInt ∧ z12.toInt ≤ 2400) : Met l yX11_set (xw yX11_set cX11_set 6 (some .int)) rm_X11_set (va_Pc [.ref a, .int p0, .int p1, .int p2, .int p3] (XP E K F (tl, [z0, z1, z2, z3, z4, z5, z6, z7, z8, z9, z10, z11, z12, z13, z14, z15, z16, z17, z18, z19, z20], [ar0, ar1, ar2, ar3, ar4, ar5, ar6, ar7, ar8, ar9, ar10]))) (XQ E (fun v (u : Int32 × Int32 × Int32 × Int32 × Int32 × Int32 × Int32 × Int32 × Int32 × Int32 × (Nat → Int32) × (Nat → Int32) × (Nat → Int32) × (Nat → Int32)) => ∃ r : Int32, v = .int r ∧ (0 ≤ u.2.2.2.2.2.1.toInt ∧ u.2.2.2.2.2.1.toInt ≤ 24 ∧ 0 ≤ u.2.2.2.2.2.2.1.toInt ∧ u.2.2.2.2.2.2.1.toInt ≤ 2400)) (fun u H => TW E K F (tl, [u.1, z1, z2, u.2.1, u.2.2.1, u.2.2.2.1, u.2.2.2.2.1, u.2.2.2.2.2.1, z8, z9, z10, z11, u.2.2.2.2.2.2.1, u.2.2.2.2.2.2.2.1, u.2.2.2.2.2.2.2.2.1, u.2.2.2.2.2.2.2.2.2.1, z16, z17, z18, z19, z20], [u.2.2.2.2.2.2.2.2.2.2.1, ar1, u.2.2.2.2.2.2.2.2.2.2.2.1, u.2.2.2.2.2.2.2.2.2.2.2.2.1, u.2.2.2.2.2.2.2.2.2.2.2.2.2, ar5, ar6, ar7, ar8, ar9, ar10]) [] H)) 0 0 (xA E) := by
  refine x_enter (by decide) (Nat.le_of_ble_eq_true rfl) ?_
  intro p e s m args below meth c Q S hr hlk hnm hQ hP ls hl
  obtain ⟨hz, hK, hT⟩ := hP
  obtain ⟨hx, hb, -, -, -⟩ := id S
  obtain ⟨H, hT, hS, hgo⟩ : ∃ H : Heap, TW E K F (tl, [z0, z1, z2, z3, z4, z5, z6, z7, z8, z9, z10, z11, z12, z13, z14, z15, z16, z17, z18, z19, z20], [ar0, ar1, ar2, ar3, ar4, ar5, ar6, ar7, ar8, ar9, ar10]) [] H ∧ va_S (xA E) s.heap H [] ∧ H = s.heap := ⟨_, hT, va_S.rf, rfl⟩
  rw [← hgo]
  have hl : lv_has ls 6 [(0, .ref a), (1, .int p0), (2, .int p1), (3, .int p2), (4, .int p3)] := hl
  refine lv_aload_n hx hb dX11_set_0 rfl (lv_at hl 0 rfl) ?_
  refine lv_iconst (v := 0) hx hb dX11_set_1 (by decide) ?_
  refine pX11_0 (kq := []) (v := 0) S hK hT hS ha kf_X11_134 (Nat.le_of_ble_eq_true rfl) dX11_set_2 (fun _ h => by cases h) (fun H locs hT hS => ?_)
  have hT : TW E K F (tl, [0, z1, z2, z3, z4, z5, z6, z7, z8, z9, z10, z11, z12, z13, z14, z15, z16, z17, z18, z19, z20], [ar0, ar1, ar2, ar3, ar4, ar5, ar6, ar7, ar8, ar9, ar10]) [] H := hT
  refine lv_aload_n hx hb dX11_set_5 rfl (lv_at hl 0 rfl) ?_
  refine x_cv0 (x_runV (b := a) (As := []) (rest := []) S (c_X11_nothing l E K F tl 0 z1 z2 z3 z4 z5 z6 z7 z8 z9 z10 z11 z12 z13 z14 z15 z16 z17 z18 z19 z20 ar0 ar1 ar2 ar3 ar4 ar5 ar6 ar7 ar8 ar9 ar10 a ha) mv_X11_nothing km_X11_231 rfl rfl ⟨Nat.le_of_ble_eq_true rfl, Nat.le_of_ble_eq_true rfl⟩ (rc_13 hK hT ha) hK (fun _ => XP.blind) (fun U hU hW => XP.at hK hz hS hT hU hW) rfl hl.1 (Nat.le_of_ble_eq_true rfl) dX11_set_6 ⟨Nat.le_of_ble_eq_true rfl, Nat.le_of_ble_eq_true rfl⟩) hS ?_
  rintro ⟨u1, u2, u3⟩ H locs t4 hT hS
  have hT : TW E K F (tl, [0, z1, z2, z3, z4, u1, u2, u3, z8, z9, z10, z11, z12, z13, z14, z15, z16, z17, z18, z19, z20], [ar0, ar1, ar2, ar3, ar4, ar5, ar6, ar7, ar8, ar9, ar10]) [] H := hT
  have t4 : u3.toInt = 0 := t4
  refine lv_aload_n hx hb dX11_set_9 rfl (lv_at hl 0 rfl) ?_
  refine lv_iload_n hx hb dX11_set_10 rfl (lv_at hl 1 rfl) ?_
  refine lv_iload_n hx hb dX11_set_11 rfl (lv_at hl 2 rfl) ?_
  refine lv_iload_n hx hb dX11_set_12 rfl (lv_at hl 3 rfl) ?_
  refine lv_iload hx hb dX11_set_13 (lv_at hl 4 rfl) ?_
  refine x_clp (x_runV (b := a) (As := [.int p0, .int p1, .int p2, .int p3]) (rest := []) S (c_X11_whyNotSet l E K F tl 0 z1 z2 z3 z4 u1 u2 u3 z8 z9 z10 z11 z12 z13 z14 z15 z16 z17 z18 z19 z20 ar0 ar1 ar2 ar3 ar4 ar5 ar6 ar7 ar8 ar9 ar10 H a p0 p1 p2 p3 ha) mv_X11_whyNotSet km_X11_359 rfl rfl ⟨Nat.le_of_ble_eq_true rfl, Nat.le_of_ble_eq_true rfl⟩ (rc_13 hK hT ha) hK (fun _ => XPh.blind) (fun U hU hW => XPh.at hK hz hS hT hU hW) rfl hl.1 (Nat.le_of_ble_eq_true rfl) dX11_set_15 ⟨Nat.le_of_ble_eq_true rfl, Nat.le_of_ble_eq_true rfl⟩) hS ?_
  rintro _ _ locs ⟨x8, rfl, t7⟩ hS
  have t7 : x8.toInt = 0 → 0 ≤ p0.toInt ∧ p0.toInt ≤ 2 ∧ 0 ≤ p1.toInt ∧ p1.toInt ≤ 29 ∧ 0 ≤ p2.toInt ∧ p2.toInt ≤ 2 := t7
  refine lv_istore (lv' := [(5, .int x8), (0, .ref a), (1, .int p0), (2, .int p1), (3, .int p2), (4, .int p3)]) hx hb dX11_set_18 hl (by decide) rfl (fun ls hl => ?_)
  refine lv_iload hx hb dX11_set_20 (lv_at hl 0 rfl) ?_
  refine xi_zeq (tgt := 32) hx hb (rfl : Int32.toInt x8 = x8.toInt) dX11_set_22 (by decide) (fun c10 => ?_) (fun c10 => ?_)
  · refine lv_aload_n hx hb dX11_set_32 rfl (lv_at hl 1 rfl) ?_
    refine x_cv0 (x_runV (b := a) (As := []) (rest := []) S (c_X11_start l E K F tl 0 z1 z2 z3 z4 u1 u2 u3 z8 z9 z10 z11 z12 z13 z14 z15 z16 z17 z18 z19 z20 ar0 ar1 ar2 ar3 ar4 ar5 ar6 ar7 ar8 ar9 ar10 a ha hR) mv_X11_start km_X11_350 rfl rfl ⟨Nat.le_of_ble_eq_true rfl, Nat.le_of_ble_eq_true rfl⟩ (rc_13 hK hT ha) hK (fun _ => XP.blind) (fun U hU hW => XP.at hK hz hS hT hU hW) rfl hl.1 (Nat.le_of_ble_eq_true rfl) dX11_set_33 ⟨Nat.le_of_ble_eq_true rfl, Nat.le_of_ble_eq_true rfl⟩) hS ?_
    rintro _ H locs - hT hS
    refine lv_aload_n hx hb dX11_set_36 rfl (lv_at hl 1 rfl) ?_
    refine gX11_1 S hK hT ha kf_X11_9 dX11_set_37 (fun hk13 => ?_)
    refine lv_iload_n hx hb dX11_set_40 rfl (lv_at hl 2 rfl) ?_
    refine lv_iload_n hx hb dX11_set_41 rfl (lv_at hl 3 rfl) ?_
    refine x_clp (x_runS (As := [.int p0, .int p1]) (rest := [.ref (F a 1)]) S (c_X11_at l E K F tl 0 z1 z2 z3 z4 u1 u2 u3 z8 z9 z10 z11 z12 z13 z14 z15 z16 z17 z18 z19 z20 ar0 ar1 ar2 ar3 ar4 ar5 ar6 ar7 ar8 ar9 ar10 H p0 p1) ms_X11_at km_X11_156 rfl rfl ⟨Nat.le_of_ble_eq_true rfl, Nat.le_of_ble_eq_true rfl⟩ hK (fun _ => XPh.blind) (fun U hU hW => XPh.at hK hz hS hT hU hW) rfl hl.1 (Nat.le_of_ble_eq_true rfl) dX11_set_42 ⟨Nat.le_of_ble_eq_true rfl, Nat.le_of_ble_eq_true rfl⟩) hS ?_
    rintro _ _ locs ⟨x15, rfl, t14⟩ hS
    have t14 : 0 ≤ p0.toInt ∧ p0.toInt ≤ 2 ∧ 0 ≤ p1.toInt ∧ p1.toInt ≤ 29 → x15.toInt = 4 * (30 * p0.toInt + p1.toInt) := t14
    refine lv_iconst (v := 1) hx hb dX11_set_45 (by decide) ?_
    refine xi_iadd hx hb (rfl : Int32.toInt x15 = x15.toInt) ((by decide) : Int32.toInt 1 = (1 : Int)) dX11_set_46 (fun x17 t18 => ?_)
    refine lv_iload_n hx hb dX11_set_47 rfl (lv_at hl 4 rfl) ?_
    refine xi_iadd hx hb (rfl : Int32.toInt x17 = x17.toInt) (rfl : Int32.toInt p2 = p2.toInt) dX11_set_48 (fun x19 t20 => ?_)
    refine lv_iload hx hb dX11_set_49 (lv_at hl 5 rfl) ?_
    refine tst_0 S hK hT hS hk13 (at_30 (f := ar0) rfl) (fun _ => bt_30 (Nat.le_of_ble_eq_true rfl)) (by decide) (by decide) xti_30 (z_X11_set_1 p0.toInt p1.toInt p2.toInt x15.toInt x17.toInt x19.toInt x8.toInt t7 c10 t14 t18 t20 (xr p0) (xr p1) (xr p2) (xr x15) (xr x17) (xr x19) (xr x8)) dX11_set_51 (fun f21 H locs hu22 hT hS => ?_)
    have hT : TW E K F (tl, [0, z1, z2, z3, z4, u1, u2, u3, z8, z9, z10, z11, z12, z13, z14, z15, z16, z17, z18, z19, z20], [f21, ar1, ar2, ar3, ar4, ar5, ar6, ar7, ar8, ar9, ar10]) [] H := hT
    refine lv_aload_n hx hb dX11_set_52 rfl (lv_at hl 1 rfl) ?_
    refine x_cl0 (x_runV (b := a) (As := []) (rest := []) S (c_X11_settles l E K F tl 0 z1 z2 z3 z4 u1 u2 u3 z8 z9 z10 z11 z12 z13 z14 z15 z16 z17 z18 z19 z20 f21 ar1 ar2 ar3 ar4 ar5 ar6 ar7 ar8 ar9 ar10 a ha hR (z_X11_set_2 u3.toInt t4 (xr u3)) (z_X11_set_3 z12.toInt e1 (xr z12))) mv_X11_settles km_X11_353 rfl rfl ⟨Nat.le_of_ble_eq_true rfl, Nat.le_of_ble_eq_true rfl⟩ (rc_13 hK hT ha) hK (fun _ => XP.blind) (fun U hU hW => XP.at hK hz hS hT hU hW) rfl hl.1 (Nat.le_of_ble_eq_true rfl) dX11_set_53 ⟨Nat.le_of_ble_eq_true rfl, Nat.le_of_ble_eq_true rfl⟩) hS ?_
    rintro _ ⟨u23, u24, u25, u26, u27, u28, u29, u30, u31, f32, f33, f34, f35⟩ H locs ⟨x37, rfl, t36⟩ hT hS
    have hT : TW E K F (tl, [0, z1, z2, u23, u24, u25, u26, u27, z8, z9, z10, z11, u28, u29, u30, u31, z16, z17, z18, z19, z20], [f32, ar1, f33, f34, f35, ar5, ar6, ar7, ar8, ar9, ar10]) [] H := hT
    have t36 : 0 ≤ u27.toInt ∧ u27.toInt ≤ 24 ∧ 0 ≤ u28.toInt ∧ u28.toInt ≤ 2400 := t36
    exact x_ri hx hb hr hlk hQ (Nat.le_of_ble_eq_true rfl) (Nat.le_of_ble_eq_true rfl) hS dX11_set_56 (0, u23, u24, u25, u26, u27, u28, u29, u30, u31, f32, f33, f34, f35) ⟨_, rfl, (z_X11_set_4 u27.toInt u28.toInt t36 (xr u27) (xr u28))⟩ hT.nil
  · refine lv_aload_n hx hb dX11_set_25 rfl (lv_at hl 1 rfl) ?_
    refine lv_iload hx hb dX11_set_26 (lv_at hl 0 rfl) ?_
    refine x_cl0 (x_runV (b := a) (As := [.int x8]) (rest := []) S (c_X11_refuses l E K F tl 0 z1 z2 z3 z4 u1 u2 u3 z8 z9 z10 z11 z12 z13 z14 z15 z16 z17 z18 z19 z20 ar0 ar1 ar2 ar3 ar4 ar5 ar6 ar7 ar8 ar9 ar10 a x8 ha) mv_X11_refuses km_X11_325 rfl rfl ⟨Nat.le_of_ble_eq_true rfl, Nat.le_of_ble_eq_true rfl⟩ (rc_13 hK hT ha) hK (fun _ => XP.blind) (fun U hU hW => XP.at hK hz hS hT hU hW) rfl hl.1 (Nat.le_of_ble_eq_true rfl) dX11_set_28 ⟨Nat.le_of_ble_eq_true rfl, Nat.le_of_ble_eq_true rfl⟩) hS ?_
    rintro _ _ H locs ⟨x39, rfl⟩ hT hS
    exact x_ri hx hb hr hlk hQ (Nat.le_of_ble_eq_true rfl) (Nat.le_of_ble_eq_true rfl) hS dX11_set_31 (0, z3, z4, u1, u2, u3, z12, z13, z14, z15, ar0, ar2, ar3, ar4) ⟨_, rfl, (z_X11_set_5 u3.toInt z12.toInt e1 t4 (xr u3) (xr z12))⟩ hT.nil

theorem z_X11_isFor_1 (a0 : Int) (a1 : Int) (a2 : Int) (h0 : a1 = 0 ∨ (a1 = 1 ∧ 0 ≤ a0 ∧ a0 ≤ 11 ∧ 0 ≤ a2)) (h1 : a1 = 0 ∨ a1 = 1) (h2 : a1 = 0) (r0 : -2147483648 ≤ a0 ∧ a0 < 2147483648) (r1 : -2147483648 ≤ a1 ∧ a1 < 2147483648) : (0 : Int) = 0 ∨ ((0 : Int) = 1 ∧ 0 ≤ a0 ∧ a0 ≤ 11 ∧ a2 = 1) := by omega
theorem z_X11_isFor_2 (a0 : Int) (a1 : Int) (a2 : Int) (h0 : a1 = 0 ∨ (a1 = 1 ∧ 0 ≤ a0 ∧ a0 ≤ 11 ∧ 0 ≤ a2)) (h1 : a1 = 0 ∨ a1 = 1) (h2 : ¬ (a1 = 0)) (r0 : -2147483648 ≤ a0 ∧ a0 < 2147483648) (r1 : -2147483648 ≤ a1 ∧ a1 < 2147483648) : 0 ≤ a0 ∧ a0 ≤ 11 := by omega
theorem z_X11_isFor_3 (a0 : Int) (a1 : Int) (a2 : Int) (a3 : Int) (h0 : a1 = 0 ∨ (a1 = 1 ∧ 0 ≤ a0 ∧ a0 ≤ 11 ∧ 0 ≤ a3)) (h1 : a1 = 0 ∨ a1 = 1) (h2 : ¬ (a1 = 0)) (h3 : a2 = a3) (r0 : -2147483648 ≤ a0 ∧ a0 < 2147483648) (r1 : -2147483648 ≤ a1 ∧ a1 < 2147483648) (r2 : -2147483648 ≤ a2 ∧ a2 < 2147483648) : 0 ≤ a0 ∧ a0 ≤ 11 := by omega
theorem z_X11_isFor_4 (a0 : Int) (a1 : Int) (a2 : Int) (a3 : Int) (a4 : Int) (a5 : Int) (a6 : Int) (h0 : a1 = 0 ∨ (a1 = 1 ∧ 0 ≤ a0 ∧ a0 ≤ 11 ∧ 0 ≤ a3)) (h1 : a1 = 0 ∨ a1 = 1) (h2 : ¬ (a1 = 0)) (h3 : a2 = a3) (h4 : (-1 ≤ a3 ∧ a3 ≤ 5) ∧ (0 ≤ a4 ∧ a4 ≤ 2) ∧ (0 ≤ a5 ∧ a5 ≤ 2) ∧ (-1 ≤ a6 ∧ a6 ≤ 2) ∧ (a3 = 1 ∨ a3 = 3 ∨ a3 = 4 → 0 ≤ a6)) (h5 : a2 ≠ (1 : Int)) (r0 : -2147483648 ≤ a0 ∧ a0 < 2147483648) (r1 : -2147483648 ≤ a1 ∧ a1 < 2147483648) (r2 : -2147483648 ≤ a2 ∧ a2 < 2147483648) : (0 : Int) = 0 ∨ ((0 : Int) = 1 ∧ 0 ≤ a0 ∧ a0 ≤ 11 ∧ a3 = 1) := by omega
theorem z_X11_isFor_5 (a0 : Int) (a1 : Int) (a2 : Int) (a3 : Int) (a4 : Int) (a5 : Int) (a6 : Int) (h0 : a1 = 0 ∨ (a1 = 1 ∧ 0 ≤ a0 ∧ a0 ≤ 11 ∧ 0 ≤ a3)) (h1 : a1 = 0 ∨ a1 = 1) (h2 : ¬ (a1 = 0)) (h3 : a2 = a3) (h4 : (-1 ≤ a3 ∧ a3 ≤ 5) ∧ (0 ≤ a4 ∧ a4 ≤ 2) ∧ (0 ≤ a5 ∧ a5 ≤ 2) ∧ (-1 ≤ a6 ∧ a6 ≤ 2) ∧ (a3 = 1 ∨ a3 = 3 ∨ a3 = 4 → 0 ≤ a6)) (h5 : ¬ (a2 ≠ (1 : Int))) (r0 : -2147483648 ≤ a0 ∧ a0 < 2147483648) (r1 : -2147483648 ≤ a1 ∧ a1 < 2147483648) (r2 : -2147483648 ≤ a2 ∧ a2 < 2147483648) : 0 ≤ a0 ∧ a0 ≤ 11 := by omega
theorem z_X11_isFor_6 (a0 : Int) (a1 : Int) (a2 : Int) (a3 : Int) (a4 : Int) (a5 : Int) (a6 : Int) (a7 : Int) (a8 : Int) (h0 : a3 = 0 ∨ (a3 = 1 ∧ 0 ≤ a0 ∧ a0 ≤ 11 ∧ 0 ≤ a5)) (h1 : a3 = 0 ∨ a3 = 1) (h2 : ¬ (a3 = 0)) (h3 : a4 = a5) (h4 : (-1 ≤ a5 ∧ a5 ≤ 5) ∧ (0 ≤ a6 ∧ a6 ≤ 2) ∧ (0 ≤ a7 ∧ a7 ≤ 2) ∧ (-1 ≤ a8 ∧ a8 ≤ 2) ∧ (a5 = 1 ∨ a5 = 3 ∨ a5 = 4 → 0 ≤ a8)) (h5 : ¬ (a4 ≠ (1 : Int))) (h6 : a2 = a8) (h7 : a2 ≠ a1) (r0 : -2147483648 ≤ a0 ∧ a0 < 2147483648) (r1 : -2147483648 ≤ a1 ∧ a1 < 2147483648) (r2 : -2147483648 ≤ a2 ∧ a2 < 2147483648) (r3 : -2147483648 ≤ a3 ∧ a3 < 2147483648) (r4 : -2147483648 ≤ a4 ∧ a4 < 2147483648) : (0 : Int) = 0 ∨ ((0 : Int) = 1 ∧ 0 ≤ a0 ∧ a0 ≤ 11 ∧ a5 = 1) := by omega
theorem z_X11_isFor_7 (a0 : Int) (a1 : Int) (a2 : Int) (a3 : Int) (a4 : Int) (a5 : Int) (a6 : Int) (a7 : Int) (a8 : Int) (h0 : a3 = 0 ∨ (a3 = 1 ∧ 0 ≤ a0 ∧ a0 ≤ 11 ∧ 0 ≤ a5)) (h1 : a3 = 0 ∨ a3 = 1) (h2 : ¬ (a3 = 0)) (h3 : a4 = a5) (h4 : (-1 ≤ a5 ∧ a5 ≤ 5) ∧ (0 ≤ a6 ∧ a6 ≤ 2) ∧ (0 ≤ a7 ∧ a7 ≤ 2) ∧ (-1 ≤ a8 ∧ a8 ≤ 2) ∧ (a5 = 1 ∨ a5 = 3 ∨ a5 = 4 → 0 ≤ a8)) (h5 : ¬ (a4 ≠ (1 : Int))) (h6 : a2 = a8) (h7 : ¬ (a2 ≠ a1)) (r0 : -2147483648 ≤ a0 ∧ a0 < 2147483648) (r1 : -2147483648 ≤ a1 ∧ a1 < 2147483648) (r2 : -2147483648 ≤ a2 ∧ a2 < 2147483648) (r3 : -2147483648 ≤ a3 ∧ a3 < 2147483648) (r4 : -2147483648 ≤ a4 ∧ a4 < 2147483648) : 0 ≤ a0 ∧ a0 ≤ 11 := by omega
theorem z_X11_isFor_8 (a0 : Int) (a1 : Int) (a2 : Int) (a3 : Int) (a4 : Int) (a5 : Int) (a6 : Int) (a7 : Int) (a8 : Int) (h0 : a3 = 0 ∨ (a3 = 1 ∧ 0 ≤ a0 ∧ a0 ≤ 11 ∧ 0 ≤ a5)) (h1 : a3 = 0 ∨ a3 = 1) (h2 : ¬ (a3 = 0)) (h3 : a4 = a5) (h4 : (-1 ≤ a5 ∧ a5 ≤ 5) ∧ (0 ≤ a6 ∧ a6 ≤ 2) ∧ (0 ≤ a7 ∧ a7 ≤ 2) ∧ (-1 ≤ a8 ∧ a8 ≤ 2) ∧ (a5 = 1 ∨ a5 = 3 ∨ a5 = 4 → 0 ≤ a8)) (h5 : ¬ (a4 ≠ (1 : Int))) (h6 : a2 = a8) (h7 : ¬ (a2 ≠ a1)) (r0 : -2147483648 ≤ a0 ∧ a0 < 2147483648) (r1 : -2147483648 ≤ a1 ∧ a1 < 2147483648) (r2 : -2147483648 ≤ a2 ∧ a2 < 2147483648) (r3 : -2147483648 ≤ a3 ∧ a3 < 2147483648) (r4 : -2147483648 ≤ a4 ∧ a4 < 2147483648) : (0 : Int) = 0 ∨ ((0 : Int) = 1 ∧ 0 ≤ a0 ∧ a0 ≤ 11 ∧ a5 = 1) := by omega
theorem z_X11_isFor_9 (a0 : Int) (a1 : Int) (a2 : Int) (a3 : Int) (a4 : Int) (a5 : Int) (a6 : Int) (a7 : Int) (a8 : Int) (h0 : a3 = 0 ∨ (a3 = 1 ∧ 0 ≤ a0 ∧ a0 ≤ 11 ∧ 0 ≤ a5)) (h1 : a3 = 0 ∨ a3 = 1) (h2 : ¬ (a3 = 0)) (h3 : a4 = a5) (h4 : (-1 ≤ a5 ∧ a5 ≤ 5) ∧ (0 ≤ a6 ∧ a6 ≤ 2) ∧ (0 ≤ a7 ∧ a7 ≤ 2) ∧ (-1 ≤ a8 ∧ a8 ≤ 2) ∧ (a5 = 1 ∨ a5 = 3 ∨ a5 = 4 → 0 ≤ a8)) (h5 : ¬ (a4 ≠ (1 : Int))) (h6 : a2 = a8) (h7 : ¬ (a2 ≠ a1)) (r0 : -2147483648 ≤ a0 ∧ a0 < 2147483648) (r1 : -2147483648 ≤ a1 ∧ a1 < 2147483648) (r2 : -2147483648 ≤ a2 ∧ a2 < 2147483648) (r3 : -2147483648 ≤ a3 ∧ a3 < 2147483648) (r4 : -2147483648 ≤ a4 ∧ a4 < 2147483648) : (1 : Int) = 0 ∨ ((1 : Int) = 1 ∧ 0 ≤ a0 ∧ a0 ≤ 11 ∧ a5 = 1) := by omega
abbrev rm_X11_isFor : Room := { frames := 2, cells := 0, slots := 0, locals := 46 }
set_option maxHeartbeats 4000000 in
set_option maxRecDepth 100000 in
theorem c_X11_isFor (l : Launch) (E : XE) (K : Nat → Nat) (F : Nat → Nat → Nat) (tl z0 z1 z2 z3 z4 z5 z6 z7 z8 z9 z10 z11 z12 z13 z14 z15 z16 z17 z18 z19 z20 : Int32) (ar0 ar1 ar2 ar3 ar4 ar5 ar6 ar7 ar8 ar9 ar10 : Nat → Int32) (h0 : Heap) (a : Nat) (p0 : Int32) (p1 : Int32) (ha : K a = 13) (hR : RV ar1) : Met l yX11_isFor (xw yX11_isFor cX11_isFor 3 (some .boolean)) rm_X11_isFor (va_Pc [.ref a, .int p0, .int p1] (XPh E K F (tl, [z0, z1, z2, z3, z4, z5, z6, z7, z8, z9, z10, z11, z12, z13, z14, z15, z16, z17, z18, z19, z20], [ar0, ar1, ar2, ar3, ar4, ar5, ar6, ar7, ar8, ar9, ar10]) h0)) (XQ E (fun v (u : Unit) => ∃ r : Int32, v = .int r ∧ (r = 0 ∨ r = 1) ∧ (r.toInt = 0 ∨ (r.toInt = 1 ∧ 0 ≤ p0.toInt ∧ p0.toInt ≤ 11 ∧ (aI ar1 (10 * p0.toInt + (0 : Int))) = 1))) (fun _ H => H = h0)) 0 0 (xA E) := by
  refine x_enter (by decide) (Nat.le_of_ble_eq_true rfl) ?_
  intro p e s m args below meth c Q S hr hlk hnm hQ hP ls hl
  obtain ⟨⟨hz, hK, hT⟩, hh⟩ := hP
  obtain ⟨hx, hb, -, -, -⟩ := id S
  have hS : va_S (xA E) s.heap s.heap [] := va_S.rf
  have hl : lv_has ls 3 [(0, .ref a), (1, .int p0), (2, .int p1)] := hl
  refine lv_aload_n hx hb dX11_isFor_0 rfl (lv_at hl 0 rfl) ?_
  refine lv_iload_n hx hb dX11_isFor_1 rfl (lv_at hl 1 rfl) ?_
  refine x_clp (x_runV (b := a) (As := [.int p0]) (rest := []) S (c_X11_isRule l E K F tl z0 z1 z2 z3 z4 z5 z6 z7 z8 z9 z10 z11 z12 z13 z14 z15 z16 z17 z18 z19 z20 ar0 ar1 ar2 ar3 ar4 ar5 ar6 ar7 ar8 ar9 ar10 s.heap a p0 ha hR) mv_X11_isRule km_X11_162 rfl rfl ⟨Nat.le_of_ble_eq_true rfl, Nat.le_of_ble_eq_true rfl⟩ (rc_13 hK hT ha) hK (fun _ => XPh.blind) (fun U hU hW => XPh.at hK hz hS hT hU hW) rfl hl.1 (Nat.le_of_ble_eq_true rfl) dX11_isFor_2 ⟨Nat.le_of_ble_eq_true rfl, Nat.le_of_ble_eq_true rfl⟩) hS ?_
  rintro _ _ locs ⟨x2, rfl, b3, t1⟩ hS
  have t1 : x2.toInt = 0 ∨ (x2.toInt = 1 ∧ 0 ≤ p0.toInt ∧ p0.toInt ≤ 11 ∧ 0 ≤ (aI ar1 (10 * p0.toInt + (0 : Int)))) := t1
  refine xi_zeq (tgt := 42) hx hb (rfl : Int32.toInt x2 = x2.toInt) dX11_isFor_5 (by decide) (fun c4 => ?_) (fun c4 => ?_)
  · refine lv_iconst (v := 0) hx hb dX11_isFor_42 (by decide) ?_
    exact x_rz hx hb hr (xnz (Or.inl rfl)) hlk hQ (Nat.le_of_ble_eq_true rfl) (Nat.le_of_ble_eq_true rfl) hS dX11_isFor_43 () ⟨_, rfl, (Or.inl rfl), (z_X11_isFor_1 p0.toInt x2.toInt (aI ar1 (10 * p0.toInt + (0 : Int))) t1 (xbz b3) c4 (xr p0) (xr x2))⟩ hh
  · refine lv_aload_n hx hb dX11_isFor_8 rfl (lv_at hl 0 rfl) ?_
    refine lv_iload_n hx hb dX11_isFor_9 rfl (lv_at hl 1 rfl) ?_
    refine lv_iconst (v := 0) hx hb dX11_isFor_10 (by decide) ?_
    refine x_clp (x_runV (b := a) (As := [.int p0, .int 0]) (rest := []) S (c_X11_of l E K F tl z0 z1 z2 z3 z4 z5 z6 z7 z8 z9 z10 z11 z12 z13 z14 z15 z16 z17 z18 z19 z20 ar0 ar1 ar2 ar3 ar4 ar5 ar6 ar7 ar8 ar9 ar10 s.heap a p0 0 ha (z_X11_isFor_2 p0.toInt x2.toInt (aI ar1 (10 * p0.toInt + (0 : Int))) t1 (xbz b3) c4 (xr p0) (xr x2)) (by decide)) mv_X11_of km_X11_165 rfl rfl ⟨Nat.le_of_ble_eq_true rfl, Nat.le_of_ble_eq_true rfl⟩ (rc_13 hK hT ha) hK (fun _ => XPh.blind) (fun U hU hW => XPh.at hK hz hS hT hU hW) rfl hl.1 (Nat.le_of_ble_eq_true rfl) dX11_isFor_11 ⟨Nat.le_of_ble_eq_true rfl, Nat.le_of_ble_eq_true rfl⟩) hS ?_
    rintro _ _ locs ⟨x6, rfl, t5⟩ hS
    have t5 : x6.toInt = (aI ar1 (10 * p0.toInt + (0 : Int))) := t5
    have v8 : (-1 ≤ (aI ar1 (10 * p0.toInt + (0 : Int))) ∧ (aI ar1 (10 * p0.toInt + (0 : Int))) ≤ 5) ∧ (0 ≤ (aI ar1 (10 * p0.toInt + (1 : Int))) ∧ (aI ar1 (10 * p0.toInt + (1 : Int))) ≤ 2) ∧ (0 ≤ (aI ar1 (10 * p0.toInt + (2 : Int))) ∧ (aI ar1 (10 * p0.toInt + (2 : Int))) ≤ 2) ∧ (-1 ≤ (aI ar1 (10 * p0.toInt + (3 : Int))) ∧ (aI ar1 (10 * p0.toInt + (3 : Int))) ≤ 2) ∧ ((aI ar1 (10 * p0.toInt + (0 : Int))) = 1 ∨ (aI ar1 (10 * p0.toInt + (0 : Int))) = 3 ∨ (aI ar1 (10 * p0.toInt + (0 : Int))) = 4 → 0 ≤ (aI ar1 (10 * p0.toInt + (3 : Int)))) := RV.row hR (z_X11_isFor_3 p0.toInt x2.toInt x6.toInt (aI ar1 (10 * p0.toInt + (0 : Int))) t1 (xbz b3) c4 t5 (xr p0) (xr x2) (xr x6))
    refine lv_iconst (v := 1) hx hb dX11_isFor_14 (by decide) ?_
    refine xi_cne (tgt := 42) hx hb (rfl : Int32.toInt x6 = x6.toInt) ((by decide) : Int32.toInt 1 = (1 : Int)) dX11_isFor_15 (by decide) (fun c9 => ?_) (fun c9 => ?_)
    · refine lv_iconst (v := 0) hx hb dX11_isFor_42 (by decide) ?_
      exact x_rz hx hb hr (xnz (Or.inl rfl)) hlk hQ (Nat.le_of_ble_eq_true rfl) (Nat.le_of_ble_eq_true rfl) hS dX11_isFor_43 () ⟨_, rfl, (Or.inl rfl), (z_X11_isFor_4 p0.toInt x2.toInt x6.toInt (aI ar1 (10 * p0.toInt + (0 : Int))) (aI ar1 (10 * p0.toInt + (1 : Int))) (aI ar1 (10 * p0.toInt + (2 : Int))) (aI ar1 (10 * p0.toInt + (3 : Int))) t1 (xbz b3) c4 t5 v8 c9 (xr p0) (xr x2) (xr x6))⟩ hh
    · refine lv_aload_n hx hb dX11_isFor_18 rfl (lv_at hl 0 rfl) ?_
      refine lv_iload_n hx hb dX11_isFor_19 rfl (lv_at hl 1 rfl) ?_
      refine lv_iconst (v := 3) hx hb dX11_isFor_20 (by decide) ?_
      refine x_clp (x_runV (b := a) (As := [.int p0, .int 3]) (rest := []) S (c_X11_of l E K F tl z0 z1 z2 z3 z4 z5 z6 z7 z8 z9 z10 z11 z12 z13 z14 z15 z16 z17 z18 z19 z20 ar0 ar1 ar2 ar3 ar4 ar5 ar6 ar7 ar8 ar9 ar10 s.heap a p0 3 ha (z_X11_isFor_5 p0.toInt x2.toInt x6.toInt (aI ar1 (10 * p0.toInt + (0 : Int))) (aI ar1 (10 * p0.toInt + (1 : Int))) (aI ar1 (10 * p0.toInt + (2 : Int))) (aI ar1 (10 * p0.toInt + (3 : Int))) t1 (xbz b3) c4 t5 v8 c9 (xr p0) (xr x2) (xr x6)) (by decide)) mv_X11_of km_X11_165 rfl rfl ⟨Nat.le_of_ble_eq_true rfl, Nat.le_of_ble_eq_true rfl⟩ (rc_13 hK hT ha) hK (fun _ => XPh.blind) (fun U hU hW => XPh.at hK hz hS hT hU hW) rfl hl.1 (Nat.le_of_ble_eq_true rfl) dX11_isFor_21 ⟨Nat.le_of_ble_eq_true rfl, Nat.le_of_ble_eq_true rfl⟩) hS ?_
      rintro _ _ locs ⟨x11, rfl, t10⟩ hS
      have t10 : x11.toInt = (aI ar1 (10 * p0.toInt + (3 : Int))) := t10
      refine lv_iload_n hx hb dX11_isFor_24 rfl (lv_at hl 2 rfl) ?_
      refine xi_cne (tgt := 42) hx hb (rfl : Int32.toInt x11 = x11.toInt) (rfl : Int32.toInt p1 = p1.toInt) dX11_isFor_25 (by decide) (fun c13 => ?_) (fun c13 => ?_)
      · refine lv_iconst (v := 0) hx hb dX11_isFor_42 (by decide) ?_
        exact x_rz hx hb hr (xnz (Or.inl rfl)) hlk hQ (Nat.le_of_ble_eq_true rfl) (Nat.le_of_ble_eq_true rfl) hS dX11_isFor_43 () ⟨_, rfl, (Or.inl rfl), (z_X11_isFor_6 p0.toInt p1.toInt x11.toInt x2.toInt x6.toInt (aI ar1 (10 * p0.toInt + (0 : Int))) (aI ar1 (10 * p0.toInt + (1 : Int))) (aI ar1 (10 * p0.toInt + (2 : Int))) (aI ar1 (10 * p0.toInt + (3 : Int))) t1 (xbz b3) c4 t5 v8 c9 t10 c13 (xr p0) (xr p1) (xr x11) (xr x2) (xr x6))⟩ hh
      · refine lv_aload_n hx hb dX11_isFor_28 rfl (lv_at hl 0 rfl) ?_
        refine lv_iload_n hx hb dX11_isFor_29 rfl (lv_at hl 1 rfl) ?_
        refine lv_bipush (v := 8) hx hb dX11_isFor_30 (by decide) ?_
        refine x_clp (x_runV (b := a) (As := [.int p0, .int 8]) (rest := []) S (c_X11_of l E K F tl z0 z1 z2 z3 z4 z5 z6 z7 z8 z9 z10 z11 z12 z13 z14 z15 z16 z17 z18 z19 z20 ar0 ar1 ar2 ar3 ar4 ar5 ar6 ar7 ar8 ar9 ar10 s.heap a p0 8 ha (z_X11_isFor_7 p0.toInt p1.toInt x11.toInt x2.toInt x6.toInt (aI ar1 (10 * p0.toInt + (0 : Int))) (aI ar1 (10 * p0.toInt + (1 : Int))) (aI ar1 (10 * p0.toInt + (2 : Int))) (aI ar1 (10 * p0.toInt + (3 : Int))) t1 (xbz b3) c4 t5 v8 c9 t10 c13 (xr p0) (xr p1) (xr x11) (xr x2) (xr x6)) (by decide)) mv_X11_of km_X11_165 rfl rfl ⟨Nat.le_of_ble_eq_true rfl, Nat.le_of_ble_eq_true rfl⟩ (rc_13 hK hT ha) hK (fun _ => XPh.blind) (fun U hU hW => XPh.at hK hz hS hT hU hW) rfl hl.1 (Nat.le_of_ble_eq_true rfl) dX11_isFor_32 ⟨Nat.le_of_ble_eq_true rfl, Nat.le_of_ble_eq_true rfl⟩) hS ?_
        rintro _ _ locs ⟨x15, rfl, t14⟩ hS
        have t14 : x15.toInt = (aI ar1 (10 * p0.toInt + (8 : Int))) := t14
        refine xi_zle (tgt := 42) hx hb (rfl : Int32.toInt x15 = x15.toInt) dX11_isFor_35 (by decide) (fun c17 => ?_) (fun c17 => ?_)
        · refine lv_iconst (v := 0) hx hb dX11_isFor_42 (by decide) ?_
          exact x_rz hx hb hr (xnz (Or.inl rfl)) hlk hQ (Nat.le_of_ble_eq_true rfl) (Nat.le_of_ble_eq_true rfl) hS dX11_isFor_43 () ⟨_, rfl, (Or.inl rfl), (z_X11_isFor_8 p0.toInt p1.toInt x11.toInt x2.toInt x6.toInt (aI ar1 (10 * p0.toInt + (0 : Int))) (aI ar1 (10 * p0.toInt + (1 : Int))) (aI ar1 (10 * p0.toInt + (2 : Int))) (aI ar1 (10 * p0.toInt + (3 : Int))) t1 (xbz b3) c4 t5 v8 c9 t10 c13 (xr p0) (xr p1) (xr x11) (xr x2) (xr x6))⟩ hh
        · refine lv_iconst (v := 1) hx hb dX11_isFor_38 (by decide) ?_
          refine lv_goto (tgt := 43) hx hb dX11_isFor_39 (by decide) ?_
          exact x_rz hx hb hr (xnz (Or.inr rfl)) hlk hQ (Nat.le_of_ble_eq_true rfl) (Nat.le_of_ble_eq_true rfl) hS dX11_isFor_43 () ⟨_, rfl, (Or.inr rfl), (z_X11_isFor_9 p0.toInt p1.toInt x11.toInt x2.toInt x6.toInt (aI ar1 (10 * p0.toInt + (0 : Int))) (aI ar1 (10 * p0.toInt + (1 : Int))) (aI ar1 (10 * p0.toInt + (2 : Int))) (aI ar1 (10 * p0.toInt + (3 : Int))) t1 (xbz b3) c4 t5 v8 c9 t10 c13 (xr p0) (xr p1) (xr x11) (xr x2) (xr x6))⟩ hh

theorem z_X11_rekey_1 (a0 : Int) (a1 : Int) (h0 : 0 ≤ a1 ∧ a1 ≤ 2400) (h1 : a0 = 0) (r0 : -2147483648 ≤ a0 ∧ a0 < 2147483648) (r1 : -2147483648 ≤ a1 ∧ a1 < 2147483648) : 0 ≤ a0 ∧ a0 ≤ 24 ∧ 0 ≤ a1 ∧ a1 ≤ 2400 := by omega
theorem z_X11_rekey_2 (a0 : Int) (h0 : (0 : Int) ≤ a0) (r0 : -2147483648 ≤ a0 ∧ a0 < 2147483648) : ¬ (2147483648 - a0 < ((0 : Nat) : Int)) := by omega
theorem z_X11_rekey_3 (a0 : Int) (a1 : Int) (a2 : Int) (a3 : Int) (a4 : Int) (a5 : Int) (a6 : Int) (a7 : Int) (a8 : Int) (a9 : Int) (a10 : Int) (h0 : (a8 = 1 ∧ 0 ≤ a0 ∧ a0 ≤ 2) ∨ (a8 = 0 ∧ (a0 < 0 ∨ 2 < a0))) (h1 : a8 = 0 ∨ a8 = 1) (h2 : ¬ (a8 = 0)) (h3 : (a3 = 1 ∧ 0 ≤ a1 ∧ a1 ≤ 29) ∨ (a3 = 0 ∧ (a1 < 0 ∨ 29 < a1))) (h4 : a3 = 0 ∨ a3 = 1) (h5 : ¬ (a3 = 0)) (h6 : (a4 = 1 ∧ 0 ≤ a2 ∧ a2 ≤ 29) ∨ (a4 = 0 ∧ (a2 < 0 ∨ 29 < a2))) (h7 : a4 = 0 ∨ a4 = 1) (h8 : a4 ≠ 0) (h9 : a5 = 0 ∨ (a5 = 1 ∧ 0 ≤ a0 ∧ a0 ≤ 2 ∧ 0 ≤ a1 ∧ a1 ≤ 29 ∧ a9 = 1)) (h10 : a5 = 0 ∨ a5 = 1) (h11 : a5 ≠ 0) (h12 : a6 = 0 ∨ (a6 = 1 ∧ 0 ≤ a0 ∧ a0 ≤ 2 ∧ 0 ≤ a2 ∧ a2 ≤ 29 ∧ a10 = 1)) (h13 : a6 = 0 ∨ a6 = 1) (h14 : a6 = 0) (h15 : 0 ≤ a0 ∧ a0 ≤ 2 ∧ 0 ≤ a1 ∧ a1 ≤ 29 → a7 = 4 * (30 * a0 + a1)) (r0 : -2147483648 ≤ a0 ∧ a0 < 2147483648) (r1 : -2147483648 ≤ a1 ∧ a1 < 2147483648) (r2 : -2147483648 ≤ a2 ∧ a2 < 2147483648) (r3 : -2147483648 ≤ a3 ∧ a3 < 2147483648) (r4 : -2147483648 ≤ a4 ∧ a4 < 2147483648) (r5 : -2147483648 ≤ a5 ∧ a5 < 2147483648) (r6 : -2147483648 ≤ a6 ∧ a6 < 2147483648) (r7 : -2147483648 ≤ a7 ∧ a7 < 2147483648) (r8 : -2147483648 ≤ a8 ∧ a8 < 2147483648) : 0 ≤ a7 ∧ a7 < ((360 : Nat) : Int) := by omega
theorem z_X11_rekey_4 (a0 : Int) (h0 : (0 : Int) ≤ a0) (r0 : -2147483648 ≤ a0 ∧ a0 < 2147483648) : ¬ (2147483648 - a0 < ((0 : Nat) : Int)) := by omega
theorem z_X11_rekey_5 (a0 : Int) (h0 : a0 = 0) (r0 : -2147483648 ≤ a0 ∧ a0 < 2147483648) : 0 ≤ a0 ∧ a0 ≤ 24 := by omega
theorem z_X11_rekey_6 (a0 : Int) (h0 : 0 ≤ a0 ∧ a0 ≤ 2400) (r0 : -2147483648 ≤ a0 ∧ a0 < 2147483648) : 0 ≤ a0 ∧ a0 ≤ 2400 := by omega
theorem z_X11_rekey_7 (a0 : Int) (a1 : Int) (h0 : 0 ≤ a0 ∧ a0 ≤ 24 ∧ 0 ≤ a1 ∧ a1 ≤ 2400) (r0 : -2147483648 ≤ a0 ∧ a0 < 2147483648) (r1 : -2147483648 ≤ a1 ∧ a1 < 2147483648) : 0 ≤ a0 ∧ a0 ≤ 24 ∧ 0 ≤ a1 ∧ a1 ≤ 2400 := by omega
theorem z_X11_rekey_8 (a0 : Int) (h0 : (0 : Int) ≤ a0) (r0 : -2147483648 ≤ a0 ∧ a0 < 2147483648) : ¬ (2147483648 - a0 < ((0 : Nat) : Int)) := by omega
theorem z_X11_rekey_9 (a0 : Int) (a1 : Int) (a2 : Nat) (h0 : (0 : Int) ≤ a0) (h1 : 2147483648 - a0 < ((a2 + 1 : Nat) : Int)) (h2 : ¬ ((12 : Int) ≤ a0)) (h3 : a1 = a0 + 1 ∨ a0 + 1 < -2147483648 ∨ 2147483648 ≤ a0 + 1) (r0 : -2147483648 ≤ a0 ∧ a0 < 2147483648) (r1 : -2147483648 ≤ a1 ∧ a1 < 2147483648) : (0 : Int) ≤ a1 := by omega
theorem z_X11_rekey_10 (a0 : Int) (a1 : Int) (a2 : Nat) (h0 : (0 : Int) ≤ a0) (h1 : 2147483648 - a0 < ((a2 + 1 : Nat) : Int)) (h2 : ¬ ((12 : Int) ≤ a0)) (h3 : a1 = a0 + 1 ∨ a0 + 1 < -2147483648 ∨ 2147483648 ≤ a0 + 1) (r0 : -2147483648 ≤ a0 ∧ a0 < 2147483648) (r1 : -2147483648 ≤ a1 ∧ a1 < 2147483648) : 2147483648 - a1 < ((a2 : Nat) : Int) := by omega
theorem z_X11_rekey_11 (a0 : Int) (a1 : Int) (a2 : Nat) (a3 : Int) (h0 : (0 : Int) ≤ a0) (h1 : 2147483648 - a0 < ((a2 + 1 : Nat) : Int)) (h2 : ¬ ((12 : Int) ≤ a0)) (h3 : a1 = 0 ∨ (a1 = 1 ∧ 0 ≤ a0 ∧ a0 ≤ 11 ∧ a3 = 1)) (h4 : a1 = 0 ∨ a1 = 1) (h5 : ¬ (a1 = 0)) (r0 : -2147483648 ≤ a0 ∧ a0 < 2147483648) (r1 : -2147483648 ≤ a1 ∧ a1 < 2147483648) : 0 ≤ a0 ∧ a0 ≤ 11 := by omega
theorem z_X11_rekey_12 (a0 : Int) (a1 : Int) (a2 : Nat) (a3 : Int) (h0 : (0 : Int) ≤ a0) (h1 : 2147483648 - a0 < ((a2 + 1 : Nat) : Int)) (h2 : ¬ ((12 : Int) ≤ a0)) (h3 : a1 = 0 ∨ (a1 = 1 ∧ 0 ≤ a0 ∧ a0 ≤ 11 ∧ a3 = 1)) (h4 : a1 = 0 ∨ a1 = 1) (h5 : ¬ (a1 = 0)) (r0 : -2147483648 ≤ a0 ∧ a0 < 2147483648) (r1 : -2147483648 ≤ a1 ∧ a1 < 2147483648) : 0 ≤ a0 ∧ a0 ≤ 11 := by omega
theorem z_X11_rekey_13 (a0 : Int) (a1 : Int) (a2 : Int) (a3 : Int) (a4 : Int) (a5 : Nat) (a6 : Nat) (a7 : Int) (a8 : Int) (a9 : Int) (a10 : Int) (h0 : (0 : Int) ≤ a0) (h1 : 2147483648 - a0 < ((a5 + 1 : Nat) : Int)) (h2 : ¬ ((12 : Int) ≤ a0)) (h3 : (0 : Int) ≤ a1) (h4 : 2147483648 - a1 < ((a6 + 1 : Nat) : Int)) (h5 : ¬ ((30 : Int) ≤ a1)) (h6 : a2 = 0 ∨ (a2 = 1 ∧ 0 ≤ a0 ∧ a0 ≤ 11 ∧ a7 = 1)) (h7 : a2 = 0 ∨ a2 = 1) (h8 : ¬ (a2 = 0)) (h9 : a3 = a8) (h10 : (-1 ≤ a7 ∧ a7 ≤ 5) ∧ (0 ≤ a8 ∧ a8 ≤ 2) ∧ (0 ≤ a9 ∧ a9 ≤ 2) ∧ (-1 ≤ a10 ∧ a10 ≤ 2) ∧ (a7 = 1 ∨ a7 = 3 ∨ a7 = 4 → 0 ≤ a10)) (h11 : 0 ≤ a3 ∧ a3 ≤ 2 ∧ 0 ≤ a1 ∧ a1 ≤ 29 → a4 = 4 * (30 * a3 + a1)) (r0 : -2147483648 ≤ a0 ∧ a0 < 2147483648) (r1 : -2147483648 ≤ a1 ∧ a1 < 2147483648) (r2 : -2147483648 ≤ a2 ∧ a2 < 2147483648) (r3 : -2147483648 ≤ a3 ∧ a3 < 2147483648) (r4 : -2147483648 ≤ a4 ∧ a4 < 2147483648) : 0 ≤ a4 ∧ a4 < ((360 : Nat) : Int) := by omega
theorem z_X11_rekey_14 (a0 : Int) (a1 : Int) (a2 : Int) (a3 : Int) (a4 : Int) (a5 : Int) (a6 : Nat) (a7 : Nat) (a8 : Int) (a9 : Int) (a10 : Int) (a11 : Int) (h0 : (0 : Int) ≤ a0) (h1 : 2147483648 - a0 < ((a6 + 1 : Nat) : Int)) (h2 : ¬ ((12 : Int) ≤ a0)) (h3 : (0 : Int) ≤ a1) (h4 : 2147483648 - a1 < ((a7 + 1 : Nat) : Int)) (h5 : ¬ ((30 : Int) ≤ a1)) (h6 : a2 = 0 ∨ (a2 = 1 ∧ 0 ≤ a0 ∧ a0 ≤ 11 ∧ a8 = 1)) (h7 : a2 = 0 ∨ a2 = 1) (h8 : ¬ (a2 = 0)) (h9 : a3 = a9) (h10 : (-1 ≤ a8 ∧ a8 ≤ 5) ∧ (0 ≤ a9 ∧ a9 ≤ 2) ∧ (0 ≤ a10 ∧ a10 ≤ 2) ∧ (-1 ≤ a11 ∧ a11 ≤ 2) ∧ (a8 = 1 ∨ a8 = 3 ∨ a8 = 4 → 0 ≤ a11)) (h11 : 0 ≤ a3 ∧ a3 ≤ 2 ∧ 0 ≤ a1 ∧ a1 ≤ 29 → a4 = 4 * (30 * a3 + a1)) (h12 : a5 = a1 + 1 ∨ a1 + 1 < -2147483648 ∨ 2147483648 ≤ a1 + 1) (r0 : -2147483648 ≤ a0 ∧ a0 < 2147483648) (r1 : -2147483648 ≤ a1 ∧ a1 < 2147483648) (r2 : -2147483648 ≤ a2 ∧ a2 < 2147483648) (r3 : -2147483648 ≤ a3 ∧ a3 < 2147483648) (r4 : -2147483648 ≤ a4 ∧ a4 < 2147483648) (r5 : -2147483648 ≤ a5 ∧ a5 < 2147483648) : (0 : Int) ≤ a5 := by omega
theorem z_X11_rekey_15 (a0 : Int) (a1 : Int) (a2 : Int) (a3 : Int) (a4 : Int) (a5 : Int) (a6 : Nat) (a7 : Nat) (a8 : Int) (a9 : Int) (a10 : Int) (a11 : Int) (h0 : (0 : Int) ≤ a0) (h1 : 2147483648 - a0 < ((a6 + 1 : Nat) : Int)) (h2 : ¬ ((12 : Int) ≤ a0)) (h3 : (0 : Int) ≤ a1) (h4 : 2147483648 - a1 < ((a7 + 1 : Nat) : Int)) (h5 : ¬ ((30 : Int) ≤ a1)) (h6 : a2 = 0 ∨ (a2 = 1 ∧ 0 ≤ a0 ∧ a0 ≤ 11 ∧ a8 = 1)) (h7 : a2 = 0 ∨ a2 = 1) (h8 : ¬ (a2 = 0)) (h9 : a3 = a9) (h10 : (-1 ≤ a8 ∧ a8 ≤ 5) ∧ (0 ≤ a9 ∧ a9 ≤ 2) ∧ (0 ≤ a10 ∧ a10 ≤ 2) ∧ (-1 ≤ a11 ∧ a11 ≤ 2) ∧ (a8 = 1 ∨ a8 = 3 ∨ a8 = 4 → 0 ≤ a11)) (h11 : 0 ≤ a3 ∧ a3 ≤ 2 ∧ 0 ≤ a1 ∧ a1 ≤ 29 → a4 = 4 * (30 * a3 + a1)) (h12 : a5 = a1 + 1 ∨ a1 + 1 < -2147483648 ∨ 2147483648 ≤ a1 + 1) (r0 : -2147483648 ≤ a0 ∧ a0 < 2147483648) (r1 : -2147483648 ≤ a1 ∧ a1 < 2147483648) (r2 : -2147483648 ≤ a2 ∧ a2 < 2147483648) (r3 : -2147483648 ≤ a3 ∧ a3 < 2147483648) (r4 : -2147483648 ≤ a4 ∧ a4 < 2147483648) (r5 : -2147483648 ≤ a5 ∧ a5 < 2147483648) : 2147483648 - a5 < ((a7 : Nat) : Int) := by omega
theorem z_X11_rekey_16 (a0 : Int) (a1 : Int) (a2 : Int) (a3 : Int) (a4 : Int) (a5 : Int) (a6 : Nat) (a7 : Nat) (a8 : Int) (a9 : Int) (a10 : Int) (a11 : Int) (h0 : (0 : Int) ≤ a0) (h1 : 2147483648 - a0 < ((a6 + 1 : Nat) : Int)) (h2 : ¬ ((12 : Int) ≤ a0)) (h3 : (0 : Int) ≤ a1) (h4 : 2147483648 - a1 < ((a7 + 1 : Nat) : Int)) (h5 : ¬ ((30 : Int) ≤ a1)) (h6 : a2 = 0 ∨ (a2 = 1 ∧ 0 ≤ a0 ∧ a0 ≤ 11 ∧ a8 = 1)) (h7 : a2 = 0 ∨ a2 = 1) (h8 : ¬ (a2 = 0)) (h9 : a3 = a9) (h10 : (-1 ≤ a8 ∧ a8 ≤ 5) ∧ (0 ≤ a9 ∧ a9 ≤ 2) ∧ (0 ≤ a10 ∧ a10 ≤ 2) ∧ (-1 ≤ a11 ∧ a11 ≤ 2) ∧ (a8 = 1 ∨ a8 = 3 ∨ a8 = 4 → 0 ≤ a11)) (h11 : 0 ≤ a3 ∧ a3 ≤ 2 ∧ 0 ≤ a1 ∧ a1 ≤ 29 → a4 = 4 * (30 * a3 + a1)) (h12 : a5 = a4 + (1 : Int) ∨ a4 + (1 : Int) < -2147483648 ∨ 2147483648 ≤ a4 + (1 : Int)) (r0 : -2147483648 ≤ a0 ∧ a0 < 2147483648) (r1 : -2147483648 ≤ a1 ∧ a1 < 2147483648) (r2 : -2147483648 ≤ a2 ∧ a2 < 2147483648) (r3 : -2147483648 ≤ a3 ∧ a3 < 2147483648) (r4 : -2147483648 ≤ a4 ∧ a4 < 2147483648) (r5 : -2147483648 ≤ a5 ∧ a5 < 2147483648) : 0 ≤ a0 ∧ a0 ≤ 11 := by omega
theorem z_X11_rekey_17 (a0 : Int) (a1 : Int) (a2 : Int) (a3 : Int) (a4 : Int) (a5 : Int) (a6 : Int) (a7 : Int) (a8 : Nat) (a9 : Nat) (a10 : Int) (a11 : Int) (a12 : Int) (a13 : Int) (h0 : (0 : Int) ≤ a2) (h1 : 2147483648 - a2 < ((a8 + 1 : Nat) : Int)) (h2 : ¬ ((12 : Int) ≤ a2)) (h3 : (0 : Int) ≤ a3) (h4 : 2147483648 - a3 < ((a9 + 1 : Nat) : Int)) (h5 : ¬ ((30 : Int) ≤ a3)) (h6 : a4 = 0 ∨ (a4 = 1 ∧ 0 ≤ a2 ∧ a2 ≤ 11 ∧ a10 = 1)) (h7 : a4 = 0 ∨ a4 = 1) (h8 : ¬ (a4 = 0)) (h9 : a5 = a11) (h10 : (-1 ≤ a10 ∧ a10 ≤ 5) ∧ (0 ≤ a11 ∧ a11 ≤ 2) ∧ (0 ≤ a12 ∧ a12 ≤ 2) ∧ (-1 ≤ a13 ∧ a13 ≤ 2) ∧ (a10 = 1 ∨ a10 = 3 ∨ a10 = 4 → 0 ≤ a13)) (h11 : 0 ≤ a5 ∧ a5 ≤ 2 ∧ 0 ≤ a3 ∧ a3 ≤ 29 → a6 = 4 * (30 * a5 + a3)) (h12 : a7 = a6 + (1 : Int) ∨ a6 + (1 : Int) < -2147483648 ∨ 2147483648 ≤ a6 + (1 : Int)) (h13 : a0 = a12) (h14 : a1 = a7 + a0 ∨ a7 + a0 < -2147483648 ∨ 2147483648 ≤ a7 + a0) (r0 : -2147483648 ≤ a0 ∧ a0 < 2147483648) (r1 : -2147483648 ≤ a1 ∧ a1 < 2147483648) (r2 : -2147483648 ≤ a2 ∧ a2 < 2147483648) (r3 : -2147483648 ≤ a3 ∧ a3 < 2147483648) (r4 : -2147483648 ≤ a4 ∧ a4 < 2147483648) (r5 : -2147483648 ≤ a5 ∧ a5 < 2147483648) (r6 : -2147483648 ≤ a6 ∧ a6 < 2147483648) (r7 : -2147483648 ≤ a7 ∧ a7 < 2147483648) : 0 ≤ a1 ∧ a1 < ((360 : Nat) : Int) := by omega
theorem z_X11_rekey_18 (a0 : Int) (a1 : Int) (a2 : Int) (a3 : Int) (a4 : Int) (a5 : Int) (a6 : Int) (a7 : Int) (a8 : Int) (a9 : Nat) (a10 : Nat) (a11 : Int) (a12 : Int) (a13 : Int) (a14 : Int) (h0 : (0 : Int) ≤ a3) (h1 : 2147483648 - a3 < ((a9 + 1 : Nat) : Int)) (h2 : ¬ ((12 : Int) ≤ a3)) (h3 : (0 : Int) ≤ a4) (h4 : 2147483648 - a4 < ((a10 + 1 : Nat) : Int)) (h5 : ¬ ((30 : Int) ≤ a4)) (h6 : a5 = 0 ∨ (a5 = 1 ∧ 0 ≤ a3 ∧ a3 ≤ 11 ∧ a11 = 1)) (h7 : a5 = 0 ∨ a5 = 1) (h8 : ¬ (a5 = 0)) (h9 : a6 = a12) (h10 : (-1 ≤ a11 ∧ a11 ≤ 5) ∧ (0 ≤ a12 ∧ a12 ≤ 2) ∧ (0 ≤ a13 ∧ a13 ≤ 2) ∧ (-1 ≤ a14 ∧ a14 ≤ 2) ∧ (a11 = 1 ∨ a11 = 3 ∨ a11 = 4 → 0 ≤ a14)) (h11 : 0 ≤ a6 ∧ a6 ≤ 2 ∧ 0 ≤ a4 ∧ a4 ≤ 29 → a7 = 4 * (30 * a6 + a4)) (h12 : a8 = a7 + (1 : Int) ∨ a7 + (1 : Int) < -2147483648 ∨ 2147483648 ≤ a7 + (1 : Int)) (h13 : a0 = a13) (h14 : a1 = a8 + a0 ∨ a8 + a0 < -2147483648 ∨ 2147483648 ≤ a8 + a0) (h15 : a2 = a7 + (1 : Int) ∨ a7 + (1 : Int) < -2147483648 ∨ 2147483648 ≤ a7 + (1 : Int)) (r0 : -2147483648 ≤ a0 ∧ a0 < 2147483648) (r1 : -2147483648 ≤ a1 ∧ a1 < 2147483648) (r2 : -2147483648 ≤ a2 ∧ a2 < 2147483648) (r3 : -2147483648 ≤ a3 ∧ a3 < 2147483648) (r4 : -2147483648 ≤ a4 ∧ a4 < 2147483648) (r5 : -2147483648 ≤ a5 ∧ a5 < 2147483648) (r6 : -2147483648 ≤ a6 ∧ a6 < 2147483648) (r7 : -2147483648 ≤ a7 ∧ a7 < 2147483648) (r8 : -2147483648 ≤ a8 ∧ a8 < 2147483648) : 0 ≤ a3 ∧ a3 ≤ 11 := by omega
theorem z_X11_rekey_19 (a0 : Int) (a1 : Int) (a2 : Int) (a3 : Int) (a4 : Int) (a5 : Int) (a6 : Int) (a7 : Int) (a8 : Int) (a9 : Int) (a10 : Int) (a11 : Nat) (a12 : Nat) (a13 : Int) (a14 : Int) (a15 : Int) (a16 : Int) (h0 : (0 : Int) ≤ a5) (h1 : 2147483648 - a5 < ((a11 + 1 : Nat) : Int)) (h2 : ¬ ((12 : Int) ≤ a5)) (h3 : (0 : Int) ≤ a6) (h4 : 2147483648 - a6 < ((a12 + 1 : Nat) : Int)) (h5 : ¬ ((30 : Int) ≤ a6)) (h6 : a7 = 0 ∨ (a7 = 1 ∧ 0 ≤ a5 ∧ a5 ≤ 11 ∧ a13 = 1)) (h7 : a7 = 0 ∨ a7 = 1) (h8 : ¬ (a7 = 0)) (h9 : a8 = a14) (h10 : (-1 ≤ a13 ∧ a13 ≤ 5) ∧ (0 ≤ a14 ∧ a14 ≤ 2) ∧ (0 ≤ a15 ∧ a15 ≤ 2) ∧ (-1 ≤ a16 ∧ a16 ≤ 2) ∧ (a13 = 1 ∨ a13 = 3 ∨ a13 = 4 → 0 ≤ a16)) (h11 : 0 ≤ a8 ∧ a8 ≤ 2 ∧ 0 ≤ a6 ∧ a6 ≤ 29 → a9 = 4 * (30 * a8 + a6)) (h12 : a10 = a9 + (1 : Int) ∨ a9 + (1 : Int) < -2147483648 ∨ 2147483648 ≤ a9 + (1 : Int)) (h13 : a0 = a15) (h14 : a1 = a10 + a0 ∨ a10 + a0 < -2147483648 ∨ 2147483648 ≤ a10 + a0) (h15 : a2 = a9 + (1 : Int) ∨ a9 + (1 : Int) < -2147483648 ∨ 2147483648 ≤ a9 + (1 : Int)) (h16 : a3 = a15) (h17 : a4 = a2 + a3 ∨ a2 + a3 < -2147483648 ∨ 2147483648 ≤ a2 + a3) (r0 : -2147483648 ≤ a0 ∧ a0 < 2147483648) (r1 : -2147483648 ≤ a1 ∧ a1 < 2147483648) (r2 : -2147483648 ≤ a2 ∧ a2 < 2147483648) (r3 : -2147483648 ≤ a3 ∧ a3 < 2147483648) (r4 : -2147483648 ≤ a4 ∧ a4 < 2147483648) (r5 : -2147483648 ≤ a5 ∧ a5 < 2147483648) (r6 : -2147483648 ≤ a6 ∧ a6 < 2147483648) (r7 : -2147483648 ≤ a7 ∧ a7 < 2147483648) (r8 : -2147483648 ≤ a8 ∧ a8 < 2147483648) (r9 : -2147483648 ≤ a9 ∧ a9 < 2147483648) (r10 : -2147483648 ≤ a10 ∧ a10 < 2147483648) : 0 ≤ a5 ∧ a5 ≤ 11 := by omega
theorem z_X11_rekey_20 (a0 : Int) (a1 : Int) (a2 : Int) (a3 : Int) (a4 : Int) (a5 : Int) (a6 : Int) (a7 : Int) (a8 : Int) (a9 : Int) (a10 : Int) (a11 : Nat) (a12 : Nat) (a13 : Int) (a14 : Int) (a15 : Int) (a16 : Int) (h0 : (0 : Int) ≤ a5) (h1 : 2147483648 - a5 < ((a11 + 1 : Nat) : Int)) (h2 : ¬ ((12 : Int) ≤ a5)) (h3 : (0 : Int) ≤ a6) (h4 : 2147483648 - a6 < ((a12 + 1 : Nat) : Int)) (h5 : ¬ ((30 : Int) ≤ a6)) (h6 : a7 = 0 ∨ (a7 = 1 ∧ 0 ≤ a5 ∧ a5 ≤ 11 ∧ a13 = 1)) (h7 : a7 = 0 ∨ a7 = 1) (h8 : ¬ (a7 = 0)) (h9 : a8 = a14) (h10 : (-1 ≤ a13 ∧ a13 ≤ 5) ∧ (0 ≤ a14 ∧ a14 ≤ 2) ∧ (0 ≤ a15 ∧ a15 ≤ 2) ∧ (-1 ≤ a16 ∧ a16 ≤ 2) ∧ (a13 = 1 ∨ a13 = 3 ∨ a13 = 4 → 0 ≤ a16)) (h11 : 0 ≤ a8 ∧ a8 ≤ 2 ∧ 0 ≤ a6 ∧ a6 ≤ 29 → a9 = 4 * (30 * a8 + a6)) (h12 : a10 = a9 + (1 : Int) ∨ a9 + (1 : Int) < -2147483648 ∨ 2147483648 ≤ a9 + (1 : Int)) (h13 : a0 = a15) (h14 : a1 = a10 + a0 ∨ a10 + a0 < -2147483648 ∨ 2147483648 ≤ a10 + a0) (h15 : a2 = a9 + (1 : Int) ∨ a9 + (1 : Int) < -2147483648 ∨ 2147483648 ≤ a9 + (1 : Int)) (h16 : a3 = a15) (h17 : a4 = a2 + a3 ∨ a2 + a3 < -2147483648 ∨ 2147483648 ≤ a2 + a3) (r0 : -2147483648 ≤ a0 ∧ a0 < 2147483648) (r1 : -2147483648 ≤ a1 ∧ a1 < 2147483648) (r2 : -2147483648 ≤ a2 ∧ a2 < 2147483648) (r3 : -2147483648 ≤ a3 ∧ a3 < 2147483648) (r4 : -2147483648 ≤ a4 ∧ a4 < 2147483648) (r5 : -2147483648 ≤ a5 ∧ a5 < 2147483648) (r6 : -2147483648 ≤ a6 ∧ a6 < 2147483648) (r7 : -2147483648 ≤ a7 ∧ a7 < 2147483648) (r8 : -2147483648 ≤ a8 ∧ a8 < 2147483648) (r9 : -2147483648 ≤ a9 ∧ a9 < 2147483648) (r10 : -2147483648 ≤ a10 ∧ a10 < 2147483648) : 0 ≤ a4 ∧ a4 < ((360 : Nat) : Int) := by omega
theorem z_X11_rekey_21 (a0 : Int) (a1 : Int) (a2 : Int) (a3 : Int) (a4 : Int) (a5 : Int) (a6 : Int) (a7 : Int) (a8 : Int) (a9 : Int) (a10 : Int) (a11 : Int) (a12 : Int) (a13 : Nat) (a14 : Int) (a15 : Int) (h0 : (a12 = 1 ∧ 0 ≤ a0 ∧ a0 ≤ 2) ∨ (a12 = 0 ∧ (a0 < 0 ∨ 2 < a0))) (h1 : a12 = 0 ∨ a12 = 1) (h2 : ¬ (a12 = 0)) (h3 : (a7 = 1 ∧ 0 ≤ a1 ∧ a1 ≤ 29) ∨ (a7 = 0 ∧ (a1 < 0 ∨ 29 < a1))) (h4 : a7 = 0 ∨ a7 = 1) (h5 : ¬ (a7 = 0)) (h6 : (a8 = 1 ∧ 0 ≤ a2 ∧ a2 ≤ 29) ∨ (a8 = 0 ∧ (a2 < 0 ∨ 29 < a2))) (h7 : a8 = 0 ∨ a8 = 1) (h8 : a8 ≠ 0) (h9 : a9 = 0 ∨ (a9 = 1 ∧ 0 ≤ a0 ∧ a0 ≤ 2 ∧ 0 ≤ a1 ∧ a1 ≤ 29 ∧ a14 = 1)) (h10 : a9 = 0 ∨ a9 = 1) (h11 : a9 ≠ 0) (h12 : a10 = 0 ∨ (a10 = 1 ∧ 0 ≤ a0 ∧ a0 ≤ 2 ∧ 0 ≤ a2 ∧ a2 ≤ 29 ∧ a15 = 1)) (h13 : a10 = 0 ∨ a10 = 1) (h14 : a10 = 0) (h15 : (0 : Int) ≤ a11) (h16 : 2147483648 - a11 < ((a13 + 1 : Nat) : Int)) (h17 : ¬ ((4 : Int) ≤ a11)) (h18 : 0 ≤ a0 ∧ a0 ≤ 2 ∧ 0 ≤ a2 ∧ a2 ≤ 29 → a3 = 4 * (30 * a0 + a2)) (h19 : a4 = a3 + a11 ∨ a3 + a11 < -2147483648 ∨ 2147483648 ≤ a3 + a11) (h20 : 0 ≤ a0 ∧ a0 ≤ 2 ∧ 0 ≤ a1 ∧ a1 ≤ 29 → a5 = 4 * (30 * a0 + a1)) (h21 : a6 = a5 + a11 ∨ a5 + a11 < -2147483648 ∨ 2147483648 ≤ a5 + a11) (r0 : -2147483648 ≤ a0 ∧ a0 < 2147483648) (r1 : -2147483648 ≤ a1 ∧ a1 < 2147483648) (r2 : -2147483648 ≤ a2 ∧ a2 < 2147483648) (r3 : -2147483648 ≤ a3 ∧ a3 < 2147483648) (r4 : -2147483648 ≤ a4 ∧ a4 < 2147483648) (r5 : -2147483648 ≤ a5 ∧ a5 < 2147483648) (r6 : -2147483648 ≤ a6 ∧ a6 < 2147483648) (r7 : -2147483648 ≤ a7 ∧ a7 < 2147483648) (r8 : -2147483648 ≤ a8 ∧ a8 < 2147483648) (r9 : -2147483648 ≤ a9 ∧ a9 < 2147483648) (r10 : -2147483648 ≤ a10 ∧ a10 < 2147483648) (r11 : -2147483648 ≤ a11 ∧ a11 < 2147483648) (r12 : -2147483648 ≤ a12 ∧ a12 < 2147483648) : 0 ≤ a6 ∧ a6 < ((360 : Nat) : Int) := by omega
theorem z_X11_rekey_22 (a0 : Int) (a1 : Int) (a2 : Int) (a3 : Int) (a4 : Int) (a5 : Int) (a6 : Int) (a7 : Int) (a8 : Int) (a9 : Int) (a10 : Int) (a11 : Int) (a12 : Int) (a13 : Nat) (a14 : Int) (a15 : Int) (h0 : (a12 = 1 ∧ 0 ≤ a0 ∧ a0 ≤ 2) ∨ (a12 = 0 ∧ (a0 < 0 ∨ 2 < a0))) (h1 : a12 = 0 ∨ a12 = 1) (h2 : ¬ (a12 = 0)) (h3 : (a7 = 1 ∧ 0 ≤ a1 ∧ a1 ≤ 29) ∨ (a7 = 0 ∧ (a1 < 0 ∨ 29 < a1))) (h4 : a7 = 0 ∨ a7 = 1) (h5 : ¬ (a7 = 0)) (h6 : (a8 = 1 ∧ 0 ≤ a2 ∧ a2 ≤ 29) ∨ (a8 = 0 ∧ (a2 < 0 ∨ 29 < a2))) (h7 : a8 = 0 ∨ a8 = 1) (h8 : a8 ≠ 0) (h9 : a9 = 0 ∨ (a9 = 1 ∧ 0 ≤ a0 ∧ a0 ≤ 2 ∧ 0 ≤ a1 ∧ a1 ≤ 29 ∧ a14 = 1)) (h10 : a9 = 0 ∨ a9 = 1) (h11 : a9 ≠ 0) (h12 : a10 = 0 ∨ (a10 = 1 ∧ 0 ≤ a0 ∧ a0 ≤ 2 ∧ 0 ≤ a2 ∧ a2 ≤ 29 ∧ a15 = 1)) (h13 : a10 = 0 ∨ a10 = 1) (h14 : a10 = 0) (h15 : (0 : Int) ≤ a11) (h16 : 2147483648 - a11 < ((a13 + 1 : Nat) : Int)) (h17 : ¬ ((4 : Int) ≤ a11)) (h18 : 0 ≤ a0 ∧ a0 ≤ 2 ∧ 0 ≤ a2 ∧ a2 ≤ 29 → a3 = 4 * (30 * a0 + a2)) (h19 : a4 = a3 + a11 ∨ a3 + a11 < -2147483648 ∨ 2147483648 ≤ a3 + a11) (h20 : 0 ≤ a0 ∧ a0 ≤ 2 ∧ 0 ≤ a1 ∧ a1 ≤ 29 → a5 = 4 * (30 * a0 + a1)) (h21 : a6 = a5 + a11 ∨ a5 + a11 < -2147483648 ∨ 2147483648 ≤ a5 + a11) (r0 : -2147483648 ≤ a0 ∧ a0 < 2147483648) (r1 : -2147483648 ≤ a1 ∧ a1 < 2147483648) (r2 : -2147483648 ≤ a2 ∧ a2 < 2147483648) (r3 : -2147483648 ≤ a3 ∧ a3 < 2147483648) (r4 : -2147483648 ≤ a4 ∧ a4 < 2147483648) (r5 : -2147483648 ≤ a5 ∧ a5 < 2147483648) (r6 : -2147483648 ≤ a6 ∧ a6 < 2147483648) (r7 : -2147483648 ≤ a7 ∧ a7 < 2147483648) (r8 : -2147483648 ≤ a8 ∧ a8 < 2147483648) (r9 : -2147483648 ≤ a9 ∧ a9 < 2147483648) (r10 : -2147483648 ≤ a10 ∧ a10 < 2147483648) (r11 : -2147483648 ≤ a11 ∧ a11 < 2147483648) (r12 : -2147483648 ≤ a12 ∧ a12 < 2147483648) : 0 ≤ a4 ∧ a4 < ((360 : Nat) : Int) := by omega
theorem z_X11_rekey_23 (a0 : Int) (a1 : Int) (a2 : Int) (a3 : Int) (a4 : Int) (a5 : Int) (a6 : Int) (a7 : Int) (a8 : Int) (a9 : Int) (a10 : Int) (a11 : Int) (a12 : Int) (a13 : Int) (a14 : Nat) (a15 : Int) (a16 : Int) (h0 : (a13 = 1 ∧ 0 ≤ a0 ∧ a0 ≤ 2) ∨ (a13 = 0 ∧ (a0 < 0 ∨ 2 < a0))) (h1 : a13 = 0 ∨ a13 = 1) (h2 : ¬ (a13 = 0)) (h3 : (a7 = 1 ∧ 0 ≤ a1 ∧ a1 ≤ 29) ∨ (a7 = 0 ∧ (a1 < 0 ∨ 29 < a1))) (h4 : a7 = 0 ∨ a7 = 1) (h5 : ¬ (a7 = 0)) (h6 : (a9 = 1 ∧ 0 ≤ a2 ∧ a2 ≤ 29) ∨ (a9 = 0 ∧ (a2 < 0 ∨ 29 < a2))) (h7 : a9 = 0 ∨ a9 = 1) (h8 : a9 ≠ 0) (h9 : a10 = 0 ∨ (a10 = 1 ∧ 0 ≤ a0 ∧ a0 ≤ 2 ∧ 0 ≤ a1 ∧ a1 ≤ 29 ∧ a15 = 1)) (h10 : a10 = 0 ∨ a10 = 1) (h11 : a10 ≠ 0) (h12 : a11 = 0 ∨ (a11 = 1 ∧ 0 ≤ a0 ∧ a0 ≤ 2 ∧ 0 ≤ a2 ∧ a2 ≤ 29 ∧ a16 = 1)) (h13 : a11 = 0 ∨ a11 = 1) (h14 : a11 = 0) (h15 : (0 : Int) ≤ a12) (h16 : 2147483648 - a12 < ((a14 + 1 : Nat) : Int)) (h17 : ¬ ((4 : Int) ≤ a12)) (h18 : 0 ≤ a0 ∧ a0 ≤ 2 ∧ 0 ≤ a2 ∧ a2 ≤ 29 → a3 = 4 * (30 * a0 + a2)) (h19 : a4 = a3 + a12 ∨ a3 + a12 < -2147483648 ∨ 2147483648 ≤ a3 + a12) (h20 : 0 ≤ a0 ∧ a0 ≤ 2 ∧ 0 ≤ a1 ∧ a1 ≤ 29 → a5 = 4 * (30 * a0 + a1)) (h21 : a6 = a5 + a12 ∨ a5 + a12 < -2147483648 ∨ 2147483648 ≤ a5 + a12) (h22 : a8 = a12 + 1 ∨ a12 + 1 < -2147483648 ∨ 2147483648 ≤ a12 + 1) (r0 : -2147483648 ≤ a0 ∧ a0 < 2147483648) (r1 : -2147483648 ≤ a1 ∧ a1 < 2147483648) (r2 : -2147483648 ≤ a2 ∧ a2 < 2147483648) (r3 : -2147483648 ≤ a3 ∧ a3 < 2147483648) (r4 : -2147483648 ≤ a4 ∧ a4 < 2147483648) (r5 : -2147483648 ≤ a5 ∧ a5 < 2147483648) (r6 : -2147483648 ≤ a6 ∧ a6 < 2147483648) (r7 : -2147483648 ≤ a7 ∧ a7 < 2147483648) (r8 : -2147483648 ≤ a8 ∧ a8 < 2147483648) (r9 : -2147483648 ≤ a9 ∧ a9 < 2147483648) (r10 : -2147483648 ≤ a10 ∧ a10 < 2147483648) (r11 : -2147483648 ≤ a11 ∧ a11 < 2147483648) (r12 : -2147483648 ≤ a12 ∧ a12 < 2147483648) (r13 : -2147483648 ≤ a13 ∧ a13 < 2147483648) : (0 : Int) ≤ a8 := by omega
theorem z_X11_rekey_24 (a0 : Int) (a1 : Int) (a2 : Int) (a3 : Int) (a4 : Int) (a5 : Int) (a6 : Int) (a7 : Int) (a8 : Int) (a9 : Int) (a10 : Int) (a11 : Int) (a12 : Int) (a13 : Int) (a14 : Nat) (a15 : Int) (a16 : Int) (h0 : (a13 = 1 ∧ 0 ≤ a0 ∧ a0 ≤ 2) ∨ (a13 = 0 ∧ (a0 < 0 ∨ 2 < a0))) (h1 : a13 = 0 ∨ a13 = 1) (h2 : ¬ (a13 = 0)) (h3 : (a7 = 1 ∧ 0 ≤ a1 ∧ a1 ≤ 29) ∨ (a7 = 0 ∧ (a1 < 0 ∨ 29 < a1))) (h4 : a7 = 0 ∨ a7 = 1) (h5 : ¬ (a7 = 0)) (h6 : (a9 = 1 ∧ 0 ≤ a2 ∧ a2 ≤ 29) ∨ (a9 = 0 ∧ (a2 < 0 ∨ 29 < a2))) (h7 : a9 = 0 ∨ a9 = 1) (h8 : a9 ≠ 0) (h9 : a10 = 0 ∨ (a10 = 1 ∧ 0 ≤ a0 ∧ a0 ≤ 2 ∧ 0 ≤ a1 ∧ a1 ≤ 29 ∧ a15 = 1)) (h10 : a10 = 0 ∨ a10 = 1) (h11 : a10 ≠ 0) (h12 : a11 = 0 ∨ (a11 = 1 ∧ 0 ≤ a0 ∧ a0 ≤ 2 ∧ 0 ≤ a2 ∧ a2 ≤ 29 ∧ a16 = 1)) (h13 : a11 = 0 ∨ a11 = 1) (h14 : a11 = 0) (h15 : (0 : Int) ≤ a12) (h16 : 2147483648 - a12 < ((a14 + 1 : Nat) : Int)) (h17 : ¬ ((4 : Int) ≤ a12)) (h18 : 0 ≤ a0 ∧ a0 ≤ 2 ∧ 0 ≤ a2 ∧ a2 ≤ 29 → a3 = 4 * (30 * a0 + a2)) (h19 : a4 = a3 + a12 ∨ a3 + a12 < -2147483648 ∨ 2147483648 ≤ a3 + a12) (h20 : 0 ≤ a0 ∧ a0 ≤ 2 ∧ 0 ≤ a1 ∧ a1 ≤ 29 → a5 = 4 * (30 * a0 + a1)) (h21 : a6 = a5 + a12 ∨ a5 + a12 < -2147483648 ∨ 2147483648 ≤ a5 + a12) (h22 : a8 = a12 + 1 ∨ a12 + 1 < -2147483648 ∨ 2147483648 ≤ a12 + 1) (r0 : -2147483648 ≤ a0 ∧ a0 < 2147483648) (r1 : -2147483648 ≤ a1 ∧ a1 < 2147483648) (r2 : -2147483648 ≤ a2 ∧ a2 < 2147483648) (r3 : -2147483648 ≤ a3 ∧ a3 < 2147483648) (r4 : -2147483648 ≤ a4 ∧ a4 < 2147483648) (r5 : -2147483648 ≤ a5 ∧ a5 < 2147483648) (r6 : -2147483648 ≤ a6 ∧ a6 < 2147483648) (r7 : -2147483648 ≤ a7 ∧ a7 < 2147483648) (r8 : -2147483648 ≤ a8 ∧ a8 < 2147483648) (r9 : -2147483648 ≤ a9 ∧ a9 < 2147483648) (r10 : -2147483648 ≤ a10 ∧ a10 < 2147483648) (r11 : -2147483648 ≤ a11 ∧ a11 < 2147483648) (r12 : -2147483648 ≤ a12 ∧ a12 < 2147483648) (r13 : -2147483648 ≤ a13 ∧ a13 < 2147483648) : 2147483648 - a8 < ((a14 : Nat) : Int) := by omega
theorem z_X11_rekey_25 (a0 : Int) (a1 : Int) (h0 : 0 ≤ a1 ∧ a1 ≤ 2400) (h1 : a0 = 0) (r0 : -2147483648 ≤ a0 ∧ a0 < 2147483648) (r1 : -2147483648 ≤ a1 ∧ a1 < 2147483648) : 0 ≤ a0 ∧ a0 ≤ 24 ∧ 0 ≤ a1 ∧ a1 ≤ 2400 := by omega
theorem z_X11_rekey_26 (a0 : Int) (a1 : Int) (h0 : 0 ≤ a1 ∧ a1 ≤ 2400) (h1 : a0 = 0) (r0 : -2147483648 ≤ a0 ∧ a0 < 2147483648) (r1 : -2147483648 ≤ a1 ∧ a1 < 2147483648) : 0 ≤ a0 ∧ a0 ≤ 24 ∧ 0 ≤ a1 ∧ a1 ≤ 2400 := by omega
abbrev rm_X11_rekey : Room := { frames := 8, cells := 0, slots := 0, locals := 186 }
set_option maxHeartbeats 4000000 in
set_option maxRecDepth 100000 in
theorem c_X11_rekey (l : Launch) (E : XE) (K : Nat → Nat) (F : Nat → Nat → Nat) (tl z0 z1 z2 z3 z4 z5 z6 z7 z8 z9 z10 z11 z12 z13 z14 z15 z16 z17 z18 z19 z20 : Int32) (ar0 ar1 ar2 ar3 ar4 ar5 ar6 ar7 ar8 ar9 ar10 : Nat → Int32) (a : Nat) (p0 : Int32) (p1 : Int32) (p2 : Int32) (ha : K a = 13) (hR : RV ar1) (e0 : 0 ≤ z7.toInt ∧ z7.toInt ≤ 24) (e1 : 0 ≤ z12.toInt ∧ z12.toInt ≤ 2400) : Met l yX11_rekey (xw yX11_rekey cX11_rekey 7 (some .int)) rm_X11_rekey (va_Pc [.ref a, .int p0, .int p1, .int p2] (XP E K F (tl, [z0, z1, z2, z3, z4, z5, z6, z7, z8, z9, z10, z11, z12, z13, z14, z15, z16, z17, z18, z19, z20], [ar0, ar1, ar2, ar3, ar4, ar5, ar6, ar7, ar8, ar9, ar10]))) (XQ E (fun v (u : Int32 × Int32 × Int32 × Int32 × Int32 × Int32 × Int32 × Int32 × Int32 × Int32 × (Nat → Int32) × (Nat → Int32) × (Nat → Int32) × (Nat → Int32)) => ∃ r : Int32, v = .int r ∧ (0 ≤ u.2.2.2.2.2.1.toInt ∧ u.2.2.2.2.2.1.toInt ≤ 24 ∧ 0 ≤ u.2.2.2.2.2.2.1.toInt ∧ u.2.2.2.2.2.2.1.toInt ≤ 2400)) (fun u H => TW E K F (tl, [u.1, z1, z2, u.2.1, u.2.2.1, u.2.2.2.1, u.2.2.2.2.1, u.2.2.2.2.2.1, z8, z9, z10, z11, u.2.2.2.2.2.2.1, u.2.2.2.2.2.2.2.1, u.2.2.2.2.2.2.2.2.1, u.2.2.2.2.2.2.2.2.2.1, z16, z17, z18, z19, z20], [u.2.2.2.2.2.2.2.2.2.2.1, ar1, u.2.2.2.2.2.2.2.2.2.2.2.1, u.2.2.2.2.2.2.2.2.2.2.2.2.1, u.2.2.2.2.2.2.2.2.2.2.2.2.2, ar5, ar6, ar7, ar8, ar9, ar10]) [] H)) 0 0 (xA E) := by
  refine x_enter (by decide) (Nat.le_of_ble_eq_true rfl) ?_
  intro p e s m args below meth c Q S hr hlk hnm hQ hP ls hl
  obtain ⟨hz, hK, hT⟩ := hP
  obtain ⟨hx, hb, -, -, -⟩ := id S
  obtain ⟨H, hT, hS, hgo⟩ : ∃ H : Heap, TW E K F (tl, [z0, z1, z2, z3, z4, z5, z6, z7, z8, z9, z10, z11, z12, z13, z14, z15, z16, z17, z18, z19, z20], [ar0, ar1, ar2, ar3, ar4, ar5, ar6, ar7, ar8, ar9, ar10]) [] H ∧ va_S (xA E) s.heap H [] ∧ H = s.heap := ⟨_, hT, va_S.rf, rfl⟩
  rw [← hgo]
  have hl : lv_has ls 7 [(0, .ref a), (1, .int p0), (2, .int p1), (3, .int p2)] := hl
  refine lv_aload_n hx hb dX11_rekey_0 rfl (lv_at hl 0 rfl) ?_
  refine lv_iconst (v := 0) hx hb dX11_rekey_1 (by decide) ?_
  refine pX11_0 (kq := []) (v := 0) S hK hT hS ha kf_X11_134 (Nat.le_of_ble_eq_true rfl) dX11_rekey_2 (fun _ h => by cases h) (fun H locs hT hS => ?_)
  have hT : TW E K F (tl, [0, z1, z2, z3, z4, z5, z6, z7, z8, z9, z10, z11, z12, z13, z14, z15, z16, z17, z18, z19, z20], [ar0, ar1, ar2, ar3, ar4, ar5, ar6, ar7, ar8, ar9, ar10]) [] H := hT
  refine lv_aload_n hx hb dX11_rekey_5 rfl (lv_at hl 0 rfl) ?_
  refine x_cv0 (x_runV (b := a) (As := []) (rest := []) S (c_X11_nothing l E K F tl 0 z1 z2 z3 z4 z5 z6 z7 z8 z9 z10 z11 z12 z13 z14 z15 z16 z17 z18 z19 z20 ar0 ar1 ar2 ar3 ar4 ar5 ar6 ar7 ar8 ar9 ar10 a ha) mv_X11_nothing km_X11_231 rfl rfl ⟨Nat.le_of_ble_eq_true rfl, Nat.le_of_ble_eq_true rfl⟩ (rc_13 hK hT ha) hK (fun _ => XP.blind) (fun U hU hW => XP.at hK hz hS hT hU hW) rfl hl.1 (Nat.le_of_ble_eq_true rfl) dX11_rekey_6 ⟨Nat.le_of_ble_eq_true rfl, Nat.le_of_ble_eq_true rfl⟩) hS ?_
  rintro ⟨u1, u2, u3⟩ H locs t4 hT hS
  have hT : TW E K F (tl, [0, z1, z2, z3, z4, u1, u2, u3, z8, z9, z10, z11, z12, z13, z14, z15, z16, z17, z18, z19, z20], [ar0, ar1, ar2, ar3, ar4, ar5, ar6, ar7, ar8, ar9, ar10]) [] H := hT
  have t4 : u3.toInt = 0 := t4
  refine lv_iload_n hx hb dX11_rekey_9 rfl (lv_at hl 1 rfl) ?_
  refine x_clp (x_runS (As := [.int p0]) (rest := []) S (c_X11_isTable l E K F tl 0 z1 z2 z3 z4 u1 u2 u3 z8 z9 z10 z11 z12 z13 z14 z15 z16 z17 z18 z19 z20 ar0 ar1 ar2 ar3 ar4 ar5 ar6 ar7 ar8 ar9 ar10 H p0) ms_X11_isTable km_X11_149 rfl rfl ⟨Nat.le_of_ble_eq_true rfl, Nat.le_of_ble_eq_true rfl⟩ hK (fun _ => XPh.blind) (fun U hU hW => XPh.at hK hz hS hT hU hW) rfl hl.1 (Nat.le_of_ble_eq_true rfl) dX11_rekey_10 ⟨Nat.le_of_ble_eq_true rfl, Nat.le_of_ble_eq_true rfl⟩) hS ?_
  rintro _ _ locs ⟨x8, rfl, b9, t7⟩ hS
  have t7 : (x8.toInt = 1 ∧ 0 ≤ p0.toInt ∧ p0.toInt ≤ 2) ∨ (x8.toInt = 0 ∧ (p0.toInt < 0 ∨ 2 < p0.toInt)) := t7
  have J30 : ∀ (H : Heap) (locs : List Loc) (ls : Array Slot), TW E K F (tl, [0, z1, z2, z3, z4, u1, u2, u3, z8, z9, z10, z11, z12, z13, z14, z15, z16, z17, z18, z19, z20], [ar0, ar1, ar2, ar3, ar4, ar5, ar6, ar7, ar8, ar9, ar10]) [] H → va_S (xA E) s.heap H locs → lv_has ls 7 [(0, .ref a)] → W p l e rm_X11_rekey s m args below meth c H locs 0 0 Q (F0 m 30 ls []) := by
    intro H locs ls hT hS hl
    refine lv_aload_n hx hb dX11_rekey_30 rfl (lv_at hl 0 rfl) ?_
    refine lv_iconst (v := (-1)) hx hb dX11_rekey_31 (by decide) ?_
    refine x_cl0 (x_runV (b := a) (As := [.int (-1)]) (rest := []) S (c_X11_refuses l E K F tl 0 z1 z2 z3 z4 u1 u2 u3 z8 z9 z10 z11 z12 z13 z14 z15 z16 z17 z18 z19 z20 ar0 ar1 ar2 ar3 ar4 ar5 ar6 ar7 ar8 ar9 ar10 a (-1) ha) mv_X11_refuses km_X11_325 rfl rfl ⟨Nat.le_of_ble_eq_true rfl, Nat.le_of_ble_eq_true rfl⟩ (rc_13 hK hT ha) hK (fun _ => XP.blind) (fun U hU hW => XP.at hK hz hS hT hU hW) rfl hl.1 (Nat.le_of_ble_eq_true rfl) dX11_rekey_32 ⟨Nat.le_of_ble_eq_true rfl, Nat.le_of_ble_eq_true rfl⟩) hS ?_
    rintro _ _ H locs ⟨x10, rfl⟩ hT hS
    exact x_ri hx hb hr hlk hQ (Nat.le_of_ble_eq_true rfl) (Nat.le_of_ble_eq_true rfl) hS dX11_rekey_35 (0, z3, z4, u1, u2, u3, z12, z13, z14, z15, ar0, ar2, ar3, ar4) ⟨_, rfl, (z_X11_rekey_1 u3.toInt z12.toInt e1 t4 (xr u3) (xr z12))⟩ hT.nil
  refine xi_zeq (tgt := 30) hx hb (rfl : Int32.toInt x8 = x8.toInt) dX11_rekey_13 (by decide) (fun c12 => ?_) (fun c12 => ?_)
  · exact J30 _ _ _ hT.nil hS (lv_sub hl [0] rfl)
  · refine lv_iload_n hx hb dX11_rekey_16 rfl (lv_at hl 2 rfl) ?_
    refine x_clp (x_runS (As := [.int p1]) (rest := []) S (c_X11_isKey l E K F tl 0 z1 z2 z3 z4 u1 u2 u3 z8 z9 z10 z11 z12 z13 z14 z15 z16 z17 z18 z19 z20 ar0 ar1 ar2 ar3 ar4 ar5 ar6 ar7 ar8 ar9 ar10 H p1) ms_X11_isKey km_X11_153 rfl rfl ⟨Nat.le_of_ble_eq_true rfl, Nat.le_of_ble_eq_true rfl⟩ hK (fun _ => XPh.blind) (fun U hU hW => XPh.at hK hz hS hT hU hW) rfl hl.1 (Nat.le_of_ble_eq_true rfl) dX11_rekey_17 ⟨Nat.le_of_ble_eq_true rfl, Nat.le_of_ble_eq_true rfl⟩) hS ?_
    rintro _ _ locs ⟨x14, rfl, b15, t13⟩ hS
    have t13 : (x14.toInt = 1 ∧ 0 ≤ p1.toInt ∧ p1.toInt ≤ 29) ∨ (x14.toInt = 0 ∧ (p1.toInt < 0 ∨ 29 < p1.toInt)) := t13
    refine xi_zeq (tgt := 30) hx hb (rfl : Int32.toInt x14 = x14.toInt) dX11_rekey_20 (by decide) (fun c16 => ?_) (fun c16 => ?_)
    · exact J30 _ _ _ hT.nil hS (lv_sub hl [0] rfl)
    · refine lv_iload_n hx hb dX11_rekey_23 rfl (lv_at hl 3 rfl) ?_
      refine x_clp (x_runS (As := [.int p2]) (rest := []) S (c_X11_isKey l E K F tl 0 z1 z2 z3 z4 u1 u2 u3 z8 z9 z10 z11 z12 z13 z14 z15 z16 z17 z18 z19 z20 ar0 ar1 ar2 ar3 ar4 ar5 ar6 ar7 ar8 ar9 ar10 H p2) ms_X11_isKey km_X11_153 rfl rfl ⟨Nat.le_of_ble_eq_true rfl, Nat.le_of_ble_eq_true rfl⟩ hK (fun _ => XPh.blind) (fun U hU hW => XPh.at hK hz hS hT hU hW) rfl hl.1 (Nat.le_of_ble_eq_true rfl) dX11_rekey_24 ⟨Nat.le_of_ble_eq_true rfl, Nat.le_of_ble_eq_true rfl⟩) hS ?_
      rintro _ _ locs ⟨x18, rfl, b19, t17⟩ hS
      have t17 : (x18.toInt = 1 ∧ 0 ≤ p2.toInt ∧ p2.toInt ≤ 29) ∨ (x18.toInt = 0 ∧ (p2.toInt < 0 ∨ 29 < p2.toInt)) := t17
      refine xi_zne (tgt := 36) hx hb (rfl : Int32.toInt x18 = x18.toInt) dX11_rekey_27 (by decide) (fun c20 => ?_) (fun c20 => ?_)
      · refine lv_aload_n hx hb dX11_rekey_36 rfl (lv_at hl 0 rfl) ?_
        refine lv_iload_n hx hb dX11_rekey_37 rfl (lv_at hl 1 rfl) ?_
        refine lv_iload_n hx hb dX11_rekey_38 rfl (lv_at hl 2 rfl) ?_
        refine x_clp (x_runV (b := a) (As := [.int p0, .int p1]) (rest := []) S (c_X11_isRow l E K F tl 0 z1 z2 z3 z4 u1 u2 u3 z8 z9 z10 z11 z12 z13 z14 z15 z16 z17 z18 z19 z20 ar0 ar1 ar2 ar3 ar4 ar5 ar6 ar7 ar8 ar9 ar10 H a p0 p1 ha) mv_X11_isRow km_X11_346 rfl rfl ⟨Nat.le_of_ble_eq_true rfl, Nat.le_of_ble_eq_true rfl⟩ (rc_13 hK hT ha) hK (fun _ => XPh.blind) (fun U hU hW => XPh.at hK hz hS hT hU hW) rfl hl.1 (Nat.le_of_ble_eq_true rfl) dX11_rekey_39 ⟨Nat.le_of_ble_eq_true rfl, Nat.le_of_ble_eq_true rfl⟩) hS ?_
        rintro _ _ locs ⟨x22, rfl, b23, t21⟩ hS
        have t21 : x22.toInt = 0 ∨ (x22.toInt = 1 ∧ 0 ≤ p0.toInt ∧ p0.toInt ≤ 2 ∧ 0 ≤ p1.toInt ∧ p1.toInt ≤ 29 ∧ (aI ar0 (4 * (30 * p0.toInt + p1.toInt))) = 1) := t21
        refine xi_zne (tgt := 52) hx hb (rfl : Int32.toInt x22 = x22.toInt) dX11_rekey_42 (by decide) (fun c24 => ?_) (fun c24 => ?_)
        · refine lv_aload_n hx hb dX11_rekey_52 rfl (lv_at hl 0 rfl) ?_
          refine lv_iload_n hx hb dX11_rekey_53 rfl (lv_at hl 1 rfl) ?_
          refine lv_iload_n hx hb dX11_rekey_54 rfl (lv_at hl 3 rfl) ?_
          refine x_clp (x_runV (b := a) (As := [.int p0, .int p2]) (rest := []) S (c_X11_isRow l E K F tl 0 z1 z2 z3 z4 u1 u2 u3 z8 z9 z10 z11 z12 z13 z14 z15 z16 z17 z18 z19 z20 ar0 ar1 ar2 ar3 ar4 ar5 ar6 ar7 ar8 ar9 ar10 H a p0 p2 ha) mv_X11_isRow km_X11_346 rfl rfl ⟨Nat.le_of_ble_eq_true rfl, Nat.le_of_ble_eq_true rfl⟩ (rc_13 hK hT ha) hK (fun _ => XPh.blind) (fun U hU hW => XPh.at hK hz hS hT hU hW) rfl hl.1 (Nat.le_of_ble_eq_true rfl) dX11_rekey_55 ⟨Nat.le_of_ble_eq_true rfl, Nat.le_of_ble_eq_true rfl⟩) hS ?_
          rintro _ _ locs ⟨x26, rfl, b27, t25⟩ hS
          have t25 : x26.toInt = 0 ∨ (x26.toInt = 1 ∧ 0 ≤ p0.toInt ∧ p0.toInt ≤ 2 ∧ 0 ≤ p2.toInt ∧ p2.toInt ≤ 29 ∧ (aI ar0 (4 * (30 * p0.toInt + p2.toInt))) = 1) := t25
          refine xi_zeq (tgt := 68) hx hb (rfl : Int32.toInt x26 = x26.toInt) dX11_rekey_58 (by decide) (fun c28 => ?_) (fun c28 => ?_)
          · refine lv_aload_n hx hb dX11_rekey_68 rfl (lv_at hl 0 rfl) ?_
            refine x_cv0 (x_runV (b := a) (As := []) (rest := []) S (c_X11_start l E K F tl 0 z1 z2 z3 z4 u1 u2 u3 z8 z9 z10 z11 z12 z13 z14 z15 z16 z17 z18 z19 z20 ar0 ar1 ar2 ar3 ar4 ar5 ar6 ar7 ar8 ar9 ar10 a ha hR) mv_X11_start km_X11_350 rfl rfl ⟨Nat.le_of_ble_eq_true rfl, Nat.le_of_ble_eq_true rfl⟩ (rc_13 hK hT ha) hK (fun _ => XP.blind) (fun U hU hW => XP.at hK hz hS hT hU hW) rfl hl.1 (Nat.le_of_ble_eq_true rfl) dX11_rekey_69 ⟨Nat.le_of_ble_eq_true rfl, Nat.le_of_ble_eq_true rfl⟩) hS ?_
            rintro _ H locs - hT hS
            refine lv_iconst (v := 0) hx hb dX11_rekey_72 (by decide) ?_
            refine lv_istore (lv' := [(4, .int 0), (0, .ref a), (1, .int p0), (2, .int p1), (3, .int p2)]) hx hb dX11_rekey_73 hl (by decide) rfl (fun ls hl => ?_)
            have L75 : ∀ (N33 : Nat) (x31 : Int32) (f32 : Nat → Int32) (H : Heap) (locs : List Loc) (ls : Array Slot), (0 : Int) ≤ x31.toInt → 2147483648 - x31.toInt < ((N33 : Nat) : Int) → TW E K F (tl, [0, z1, z2, z3, z4, u1, u2, u3, z8, z9, z10, z11, z12, z13, z14, z15, z16, z17, z18, z19, z20], [f32, ar1, ar2, ar3, ar4, ar5, ar6, ar7, ar8, ar9, ar10]) [] H → va_S (xA E) s.heap H locs → lv_has ls 7 [(0, .ref a), (1, .int p0), (2, .int p1), (3, .int p2), (4, .int x31)] → W p l e rm_X11_rekey s m args below meth c H locs 0 0 Q (F0 m 75 ls []) := by
              intro N33
              induction N33 with
              | zero =>
                intro x31 f32 H locs ls hf34 hm35
                exact absurd hm35 (z_X11_rekey_2 x31.toInt hf34 (xr x31))
              | succ N33 ih36 =>
                intro x31 f32 H locs ls hf34 hm35 hT hS hl
                refine lv_iload hx hb dX11_rekey_75 (lv_at hl 4 rfl) ?_
                refine lv_iconst (v := 4) hx hb dX11_rekey_77 (by decide) ?_
                refine xi_cge (tgt := 113) hx hb (rfl : Int32.toInt x31 = x31.toInt) ((by decide) : Int32.toInt 4 = (4 : Int)) dX11_rekey_78 (by decide) (fun c37 => ?_) (fun c37 => ?_)
                · refine lv_aload_n hx hb dX11_rekey_113 rfl (lv_at hl 0 rfl) ?_
                  refine gX11_1 S hK hT ha kf_X11_9 dX11_rekey_114 (fun hk38 => ?_)
                  refine lv_iload_n hx hb dX11_rekey_117 rfl (lv_at hl 1 rfl) ?_
                  refine lv_iload_n hx hb dX11_rekey_118 rfl (lv_at hl 2 rfl) ?_
                  refine x_clp (x_runS (As := [.int p0, .int p1]) (rest := [.ref (F a 1)]) S (c_X11_at l E K F tl 0 z1 z2 z3 z4 u1 u2 u3 z8 z9 z10 z11 z12 z13 z14 z15 z16 z17 z18 z19 z20 f32 ar1 ar2 ar3 ar4 ar5 ar6 ar7 ar8 ar9 ar10 H p0 p1) ms_X11_at km_X11_156 rfl rfl ⟨Nat.le_of_ble_eq_true rfl, Nat.le_of_ble_eq_true rfl⟩ hK (fun _ => XPh.blind) (fun U hU hW => XPh.at hK hz hS hT hU hW) rfl hl.1 (Nat.le_of_ble_eq_true rfl) dX11_rekey_119 ⟨Nat.le_of_ble_eq_true rfl, Nat.le_of_ble_eq_true rfl⟩) hS ?_
                  rintro _ _ locs ⟨x40, rfl, t39⟩ hS
                  have t39 : 0 ≤ p0.toInt ∧ p0.toInt ≤ 2 ∧ 0 ≤ p1.toInt ∧ p1.toInt ≤ 29 → x40.toInt = 4 * (30 * p0.toInt + p1.toInt) := t39
                  refine lv_iconst (v := 0) hx hb dX11_rekey_122 (by decide) ?_
                  refine tst_0 S hK hT hS hk38 (at_30 (f := f32) rfl) (fun _ => bt_30 (Nat.le_of_ble_eq_true rfl)) (by decide) (by decide) xti_30 (z_X11_rekey_3 p0.toInt p1.toInt p2.toInt x14.toInt x18.toInt x22.toInt x26.toInt x40.toInt x8.toInt (aI ar0 (4 * (30 * p0.toInt + p1.toInt))) (aI ar0 (4 * (30 * p0.toInt + p2.toInt))) t7 (xbz b9) c12 t13 (xbz b15) c16 t17 (xbz b19) c20 t21 (xbz b23) c24 t25 (xbz b27) c28 t39 (xr p0) (xr p1) (xr p2) (xr x14) (xr x18) (xr x22) (xr x26) (xr x40) (xr x8)) dX11_rekey_123 (fun f42 H locs hu43 hT hS => ?_)
                  have hT : TW E K F (tl, [0, z1, z2, z3, z4, u1, u2, u3, z8, z9, z10, z11, z12, z13, z14, z15, z16, z17, z18, z19, z20], [f42, ar1, ar2, ar3, ar4, ar5, ar6, ar7, ar8, ar9, ar10]) [] H := hT
                  have hu43 : ∀ z : Int, 0 ≤ z → aI f42 z = if z = x40.toInt then (0 : Int) else aI f32 z := fun z h9 => by have h8 := hu43 z h9; rw [show Int32.toInt 0 = (0 : Int) from by decide] at h8; exact h8
                  refine lv_iconst (v := 0) hx hb dX11_rekey_124 (by decide) ?_
                  refine lv_istore (lv' := [(4, .int 0), (0, .ref a), (1, .int p0), (2, .int p1), (3, .int p2)]) hx hb dX11_rekey_125 hl (by decide) rfl (fun ls hl => ?_)
                  have L127 : ∀ (N46 : Nat) (x44 : Int32) (f45 : Nat → Int32) (H : Heap) (locs : List Loc) (ls : Array Slot), (0 : Int) ≤ x44.toInt → 2147483648 - x44.toInt < ((N46 : Nat) : Int) → TW E K F (tl, [0, z1, z2, z3, z4, u1, u2, u3, z8, z9, z10, z11, z12, z13, z14, z15, z16, z17, z18, z19, z20], [f45, ar1, ar2, ar3, ar4, ar5, ar6, ar7, ar8, ar9, ar10]) [] H → va_S (xA E) s.heap H locs → lv_has ls 7 [(0, .ref a), (1, .int p0), (2, .int p1), (3, .int p2), (4, .int x44)] → W p l e rm_X11_rekey s m args below meth c H locs 0 0 Q (F0 m 127 ls []) := by
                    intro N46
                    induction N46 with
                    | zero =>
                      intro x44 f45 H locs ls hf47 hm48
                      exact absurd hm48 (z_X11_rekey_4 x44.toInt hf47 (xr x44))
                    | succ N46 ih49 =>
                      intro x44 f45 H locs ls hf47 hm48 hT hS hl
                      refine lv_iload hx hb dX11_rekey_127 (lv_at hl 4 rfl) ?_
                      refine lv_bipush (v := 12) hx hb dX11_rekey_129 (by decide) ?_
                      refine xi_cge (tgt := 248) hx hb (rfl : Int32.toInt x44 = x44.toInt) ((by decide) : Int32.toInt 12 = (12 : Int)) dX11_rekey_131 (by decide) (fun c50 => ?_) (fun c50 => ?_)
                      · refine lv_aload_n hx hb dX11_rekey_248 rfl (lv_at hl 0 rfl) ?_
                        refine x_cl0 (x_runV (b := a) (As := []) (rest := []) S (c_X11_settles l E K F tl 0 z1 z2 z3 z4 u1 u2 u3 z8 z9 z10 z11 z12 z13 z14 z15 z16 z17 z18 z19 z20 f45 ar1 ar2 ar3 ar4 ar5 ar6 ar7 ar8 ar9 ar10 a ha hR (z_X11_rekey_5 u3.toInt t4 (xr u3)) (z_X11_rekey_6 z12.toInt e1 (xr z12))) mv_X11_settles km_X11_353 rfl rfl ⟨Nat.le_of_ble_eq_true rfl, Nat.le_of_ble_eq_true rfl⟩ (rc_13 hK hT ha) hK (fun _ => XP.blind) (fun U hU hW => XP.at hK hz hS hT hU hW) rfl hl.1 (Nat.le_of_ble_eq_true rfl) dX11_rekey_249 ⟨Nat.le_of_ble_eq_true rfl, Nat.le_of_ble_eq_true rfl⟩) hS ?_
                        rintro _ ⟨u51, u52, u53, u54, u55, u56, u57, u58, u59, f60, f61, f62, f63⟩ H locs ⟨x65, rfl, t64⟩ hT hS
                        have hT : TW E K F (tl, [0, z1, z2, u51, u52, u53, u54, u55, z8, z9, z10, z11, u56, u57, u58, u59, z16, z17, z18, z19, z20], [f60, ar1, f61, f62, f63, ar5, ar6, ar7, ar8, ar9, ar10]) [] H := hT
                        have t64 : 0 ≤ u55.toInt ∧ u55.toInt ≤ 24 ∧ 0 ≤ u56.toInt ∧ u56.toInt ≤ 2400 := t64
                        exact x_ri hx hb hr hlk hQ (Nat.le_of_ble_eq_true rfl) (Nat.le_of_ble_eq_true rfl) hS dX11_rekey_252 (0, u51, u52, u53, u54, u55, u56, u57, u58, u59, f60, f61, f62, f63) ⟨_, rfl, (z_X11_rekey_7 u55.toInt u56.toInt t64 (xr u55) (xr u56))⟩ hT.nil
                      · refine lv_iconst (v := 0) hx hb dX11_rekey_134 (by decide) ?_
                        refine lv_istore (lv' := [(5, .int 0), (0, .ref a), (1, .int p0), (2, .int p1), (3, .int p2), (4, .int x44)]) hx hb dX11_rekey_135 hl (by decide) rfl (fun ls hl => ?_)
                        have L137 : ∀ (N69 : Nat) (x67 : Int32) (f68 : Nat → Int32) (H : Heap) (locs : List Loc) (ls : Array Slot), (0 : Int) ≤ x67.toInt → 2147483648 - x67.toInt < ((N69 : Nat) : Int) → TW E K F (tl, [0, z1, z2, z3, z4, u1, u2, u3, z8, z9, z10, z11, z12, z13, z14, z15, z16, z17, z18, z19, z20], [f68, ar1, ar2, ar3, ar4, ar5, ar6, ar7, ar8, ar9, ar10]) [] H → va_S (xA E) s.heap H locs → lv_has ls 7 [(0, .ref a), (1, .int p0), (2, .int p1), (3, .int p2), (4, .int x44), (5, .int x67)] → W p l e rm_X11_rekey s m args below meth c H locs 0 0 Q (F0 m 137 ls []) := by
                          intro N69
                          induction N69 with
                          | zero =>
                            intro x67 f68 H locs ls hf70 hm71
                            exact absurd hm71 (z_X11_rekey_8 x67.toInt hf70 (xr x67))
                          | succ N69 ih72 =>
                            intro x67 f68 H locs ls hf70 hm71 hT hS hl
                            refine lv_iload hx hb dX11_rekey_137 (lv_at hl 5 rfl) ?_
                            refine lv_bipush (v := 30) hx hb dX11_rekey_139 (by decide) ?_
                            have J242 : ∀ (H : Heap) (locs : List Loc) (ls : Array Slot), TW E K F (tl, [0, z1, z2, z3, z4, u1, u2, u3, z8, z9, z10, z11, z12, z13, z14, z15, z16, z17, z18, z19, z20], [f68, ar1, ar2, ar3, ar4, ar5, ar6, ar7, ar8, ar9, ar10]) [] H → va_S (xA E) s.heap H locs → lv_has ls 7 [(0, .ref a), (1, .int p0), (2, .int p1), (3, .int p2), (4, .int x44)] → W p l e rm_X11_rekey s m args below meth c H locs 0 0 Q (F0 m 242 ls []) := by
                              intro H locs ls hT hS hl
                              refine xi_iinc (n := 1) (lv' := fun z9 => [(4, .int z9), (0, .ref a), (1, .int p0), (2, .int p1), (3, .int p2)]) (k := 4) hx hb (rfl : Int32.toInt x44 = x44.toInt) (by decide) dX11_rekey_242 hl rfl (by decide) (fun _ => rfl) (fun x73 ls t74 hl => ?_)
                              have hl : lv_has ls 7 [(4, .int x73), (0, .ref a), (1, .int p0), (2, .int p1), (3, .int p2)] := hl
                              refine lv_goto (tgt := 127) hx hb dX11_rekey_245 (by decide) ?_
                              exact ih49 x73 f68 _ _ _ (z_X11_rekey_9 x44.toInt x73.toInt N46 hf47 hm48 c50 t74 (xr x44) (xr x73)) (z_X11_rekey_10 x44.toInt x73.toInt N46 hf47 hm48 c50 t74 (xr x44) (xr x73)) hT.nil hS (lv_sub hl [1, 2, 3, 4, 0] rfl)
                            refine xi_cge (tgt := 242) hx hb (rfl : Int32.toInt x67 = x67.toInt) ((by decide) : Int32.toInt 30 = (30 : Int)) dX11_rekey_141 (by decide) (fun c75 => ?_) (fun c75 => ?_)
                            · exact J242 _ _ _ hT.nil hS (lv_sub hl [0, 1, 2, 3, 4] rfl)
                            · refine lv_aload_n hx hb dX11_rekey_144 rfl (lv_at hl 0 rfl) ?_
                              refine lv_iload hx hb dX11_rekey_145 (lv_at hl 4 rfl) ?_
                              refine lv_iload_n hx hb dX11_rekey_147 rfl (lv_at hl 1 rfl) ?_
                              refine x_clp (x_runV (b := a) (As := [.int x44, .int p0]) (rest := []) S (c_X11_isFor l E K F tl 0 z1 z2 z3 z4 u1 u2 u3 z8 z9 z10 z11 z12 z13 z14 z15 z16 z17 z18 z19 z20 f68 ar1 ar2 ar3 ar4 ar5 ar6 ar7 ar8 ar9 ar10 H a x44 p0 ha hR) mv_X11_isFor km_X11_367 rfl rfl ⟨Nat.le_of_ble_eq_true rfl, Nat.le_of_ble_eq_true rfl⟩ (rc_13 hK hT ha) hK (fun _ => XPh.blind) (fun U hU hW => XPh.at hK hz hS hT hU hW) rfl hl.1 (Nat.le_of_ble_eq_true rfl) dX11_rekey_148 ⟨Nat.le_of_ble_eq_true rfl, Nat.le_of_ble_eq_true rfl⟩) hS ?_
                              rintro _ _ locs ⟨x77, rfl, b78, t76⟩ hS
                              have t76 : x77.toInt = 0 ∨ (x77.toInt = 1 ∧ 0 ≤ x44.toInt ∧ x44.toInt ≤ 11 ∧ (aI ar1 (10 * x44.toInt + (0 : Int))) = 1) := t76
                              refine xi_zeq (tgt := 242) hx hb (rfl : Int32.toInt x77 = x77.toInt) dX11_rekey_151 (by decide) (fun c79 => ?_) (fun c79 => ?_)
                              · exact J242 _ _ _ hT.nil hS (lv_sub hl [0, 1, 2, 3, 4] rfl)
                              · refine lv_aload_n hx hb dX11_rekey_154 rfl (lv_at hl 0 rfl) ?_
                                refine lv_iload hx hb dX11_rekey_155 (lv_at hl 4 rfl) ?_
                                refine lv_iconst (v := 1) hx hb dX11_rekey_157 (by decide) ?_
                                refine x_clp (x_runV (b := a) (As := [.int x44, .int 1]) (rest := []) S (c_X11_of l E K F tl 0 z1 z2 z3 z4 u1 u2 u3 z8 z9 z10 z11 z12 z13 z14 z15 z16 z17 z18 z19 z20 f68 ar1 ar2 ar3 ar4 ar5 ar6 ar7 ar8 ar9 ar10 H a x44 1 ha (z_X11_rekey_11 x44.toInt x77.toInt N46 (aI ar1 (10 * x44.toInt + (0 : Int))) hf47 hm48 c50 t76 (xbz b78) c79 (xr x44) (xr x77)) (by decide)) mv_X11_of km_X11_165 rfl rfl ⟨Nat.le_of_ble_eq_true rfl, Nat.le_of_ble_eq_true rfl⟩ (rc_13 hK hT ha) hK (fun _ => XPh.blind) (fun U hU hW => XPh.at hK hz hS hT hU hW) rfl hl.1 (Nat.le_of_ble_eq_true rfl) dX11_rekey_158 ⟨Nat.le_of_ble_eq_true rfl, Nat.le_of_ble_eq_true rfl⟩) hS ?_
                                rintro _ _ locs ⟨x81, rfl, t80⟩ hS
                                have t80 : x81.toInt = (aI ar1 (10 * x44.toInt + (1 : Int))) := t80
                                have v83 : (-1 ≤ (aI ar1 (10 * x44.toInt + (0 : Int))) ∧ (aI ar1 (10 * x44.toInt + (0 : Int))) ≤ 5) ∧ (0 ≤ (aI ar1 (10 * x44.toInt + (1 : Int))) ∧ (aI ar1 (10 * x44.toInt + (1 : Int))) ≤ 2) ∧ (0 ≤ (aI ar1 (10 * x44.toInt + (2 : Int))) ∧ (aI ar1 (10 * x44.toInt + (2 : Int))) ≤ 2) ∧ (-1 ≤ (aI ar1 (10 * x44.toInt + (3 : Int))) ∧ (aI ar1 (10 * x44.toInt + (3 : Int))) ≤ 2) ∧ ((aI ar1 (10 * x44.toInt + (0 : Int))) = 1 ∨ (aI ar1 (10 * x44.toInt + (0 : Int))) = 3 ∨ (aI ar1 (10 * x44.toInt + (0 : Int))) = 4 → 0 ≤ (aI ar1 (10 * x44.toInt + (3 : Int)))) := RV.row hR (z_X11_rekey_12 x44.toInt x77.toInt N46 (aI ar1 (10 * x44.toInt + (0 : Int))) hf47 hm48 c50 t76 (xbz b78) c79 (xr x44) (xr x77))
                                refine lv_iload hx hb dX11_rekey_161 (lv_at hl 5 rfl) ?_
                                refine x_clp (x_runS (As := [.int x81, .int x67]) (rest := []) S (c_X11_at l E K F tl 0 z1 z2 z3 z4 u1 u2 u3 z8 z9 z10 z11 z12 z13 z14 z15 z16 z17 z18 z19 z20 f68 ar1 ar2 ar3 ar4 ar5 ar6 ar7 ar8 ar9 ar10 H x81 x67) ms_X11_at km_X11_156 rfl rfl ⟨Nat.le_of_ble_eq_true rfl, Nat.le_of_ble_eq_true rfl⟩ hK (fun _ => XPh.blind) (fun U hU hW => XPh.at hK hz hS hT hU hW) rfl hl.1 (Nat.le_of_ble_eq_true rfl) dX11_rekey_163 ⟨Nat.le_of_ble_eq_true rfl, Nat.le_of_ble_eq_true rfl⟩) hS ?_
                                rintro _ _ locs ⟨x85, rfl, t84⟩ hS
                                have t84 : 0 ≤ x81.toInt ∧ x81.toInt ≤ 2 ∧ 0 ≤ x67.toInt ∧ x67.toInt ≤ 29 → x85.toInt = 4 * (30 * x81.toInt + x67.toInt) := t84
                                refine lv_istore (lv' := [(6, .int x85), (0, .ref a), (1, .int p0), (2, .int p1), (3, .int p2), (4, .int x44), (5, .int x67)]) hx hb dX11_rekey_166 hl (by decide) rfl (fun ls hl => ?_)
                                refine lv_aload_n hx hb dX11_rekey_168 rfl (lv_at hl 1 rfl) ?_
                                refine gX11_1 S hK hT ha kf_X11_9 dX11_rekey_169 (fun hk87 => ?_)
                                refine lv_iload hx hb dX11_rekey_172 (lv_at hl 0 rfl) ?_
                                refine tld_0 S hK hT hk87 (at_30 (f := f68) rfl) (by decide) (z_X11_rekey_13 x44.toInt x67.toInt x77.toInt x81.toInt x85.toInt N46 N69 (aI ar1 (10 * x44.toInt + (0 : Int))) (aI ar1 (10 * x44.toInt + (1 : Int))) (aI ar1 (10 * x44.toInt + (2 : Int))) (aI ar1 (10 * x44.toInt + (3 : Int))) hf47 hm48 c50 hf70 hm71 c75 t76 (xbz b78) c79 t80 v83 t84 (xr x44) (xr x67) (xr x77) (xr x81) (xr x85)) dX11_rekey_174 (fun x88 w89 o90 => ?_)
                                refine lv_iconst (v := 1) hx hb dX11_rekey_175 (by decide) ?_
                                have J236 : ∀ (f92 : Nat → Int32) (H : Heap) (locs : List Loc) (ls : Array Slot), TW E K F (tl, [0, z1, z2, z3, z4, u1, u2, u3, z8, z9, z10, z11, z12, z13, z14, z15, z16, z17, z18, z19, z20], [f92, ar1, ar2, ar3, ar4, ar5, ar6, ar7, ar8, ar9, ar10]) [] H → va_S (xA E) s.heap H locs → lv_has ls 7 [(0, .ref a), (1, .int p0), (2, .int p1), (3, .int p2), (4, .int x44), (5, .int x67)] → W p l e rm_X11_rekey s m args below meth c H locs 0 0 Q (F0 m 236 ls []) := by
                                  intro f92 H locs ls hT hS hl
                                  refine xi_iinc (n := 1) (lv' := fun z9 => [(5, .int z9), (0, .ref a), (1, .int p0), (2, .int p1), (3, .int p2), (4, .int x44)]) (k := 5) hx hb (rfl : Int32.toInt x67 = x67.toInt) (by decide) dX11_rekey_236 hl rfl (by decide) (fun _ => rfl) (fun x93 ls t94 hl => ?_)
                                  have hl : lv_has ls 7 [(5, .int x93), (0, .ref a), (1, .int p0), (2, .int p1), (3, .int p2), (4, .int x44)] := hl
                                  refine lv_goto (tgt := 137) hx hb dX11_rekey_239 (by decide) ?_
                                  exact ih72 x93 f92 _ _ _ (z_X11_rekey_14 x44.toInt x67.toInt x77.toInt x81.toInt x85.toInt x93.toInt N46 N69 (aI ar1 (10 * x44.toInt + (0 : Int))) (aI ar1 (10 * x44.toInt + (1 : Int))) (aI ar1 (10 * x44.toInt + (2 : Int))) (aI ar1 (10 * x44.toInt + (3 : Int))) hf47 hm48 c50 hf70 hm71 c75 t76 (xbz b78) c79 t80 v83 t84 t94 (xr x44) (xr x67) (xr x77) (xr x81) (xr x85) (xr x93)) (z_X11_rekey_15 x44.toInt x67.toInt x77.toInt x81.toInt x85.toInt x93.toInt N46 N69 (aI ar1 (10 * x44.toInt + (0 : Int))) (aI ar1 (10 * x44.toInt + (1 : Int))) (aI ar1 (10 * x44.toInt + (2 : Int))) (aI ar1 (10 * x44.toInt + (3 : Int))) hf47 hm48 c50 hf70 hm71 c75 t76 (xbz b78) c79 t80 v83 t84 t94 (xr x44) (xr x67) (xr x77) (xr x81) (xr x85) (xr x93)) hT.nil hS (lv_sub hl [1, 2, 3, 4, 5, 0] rfl)
                                refine xi_cne (tgt := 236) hx hb (rfl : Int32.toInt x88 = x88.toInt) ((by decide) : Int32.toInt 1 = (1 : Int)) dX11_rekey_176 (by decide) (fun c95 => ?_) (fun c95 => ?_)
                                · exact J236 f68 _ _ _ hT.nil hS (lv_sub hl [1, 2, 3, 4, 5, 6] rfl)
                                · refine lv_aload_n hx hb dX11_rekey_179 rfl (lv_at hl 1 rfl) ?_
                                  refine gX11_1 S hK hT ha kf_X11_9 dX11_rekey_180 (fun hk96 => ?_)
                                  refine lv_iload hx hb dX11_rekey_183 (lv_at hl 0 rfl) ?_
                                  refine lv_iconst (v := 1) hx hb dX11_rekey_185 (by decide) ?_
                                  refine xi_iadd hx hb (rfl : Int32.toInt x85 = x85.toInt) ((by decide) : Int32.toInt 1 = (1 : Int)) dX11_rekey_186 (fun x97 t98 => ?_)
                                  refine lv_aload_n hx hb dX11_rekey_187 rfl (lv_at hl 1 rfl) ?_
                                  refine lv_iload hx hb dX11_rekey_188 (lv_at hl 5 rfl) ?_
                                  refine lv_iconst (v := 2) hx hb dX11_rekey_190 (by decide) ?_
                                  refine x_clp (x_runV (b := a) (As := [.int x44, .int 2]) (rest := [.int x97, .ref (F a 1)]) S (c_X11_of l E K F tl 0 z1 z2 z3 z4 u1 u2 u3 z8 z9 z10 z11 z12 z13 z14 z15 z16 z17 z18 z19 z20 f68 ar1 ar2 ar3 ar4 ar5 ar6 ar7 ar8 ar9 ar10 H a x44 2 ha (z_X11_rekey_16 x44.toInt x67.toInt x77.toInt x81.toInt x85.toInt x97.toInt N46 N69 (aI ar1 (10 * x44.toInt + (0 : Int))) (aI ar1 (10 * x44.toInt + (1 : Int))) (aI ar1 (10 * x44.toInt + (2 : Int))) (aI ar1 (10 * x44.toInt + (3 : Int))) hf47 hm48 c50 hf70 hm71 c75 t76 (xbz b78) c79 t80 v83 t84 t98 (xr x44) (xr x67) (xr x77) (xr x81) (xr x85) (xr x97)) (by decide)) mv_X11_of km_X11_165 rfl rfl ⟨Nat.le_of_ble_eq_true rfl, Nat.le_of_ble_eq_true rfl⟩ (rc_13 hK hT ha) hK (fun _ => XPh.blind) (fun U hU hW => XPh.at hK hz hS hT hU hW) rfl hl.1 (Nat.le_of_ble_eq_true rfl) dX11_rekey_191 ⟨Nat.le_of_ble_eq_true rfl, Nat.le_of_ble_eq_true rfl⟩) hS ?_
                                  rintro _ _ locs ⟨x100, rfl, t99⟩ hS
                                  have t99 : x100.toInt = (aI ar1 (10 * x44.toInt + (2 : Int))) := t99
                                  refine xi_iadd hx hb (rfl : Int32.toInt x97 = x97.toInt) (rfl : Int32.toInt x100 = x100.toInt) dX11_rekey_194 (fun x102 t103 => ?_)
                                  refine tld_0 S hK hT hk96 (at_30 (f := f68) rfl) (by decide) (z_X11_rekey_17 x100.toInt x102.toInt x44.toInt x67.toInt x77.toInt x81.toInt x85.toInt x97.toInt N46 N69 (aI ar1 (10 * x44.toInt + (0 : Int))) (aI ar1 (10 * x44.toInt + (1 : Int))) (aI ar1 (10 * x44.toInt + (2 : Int))) (aI ar1 (10 * x44.toInt + (3 : Int))) hf47 hm48 c50 hf70 hm71 c75 t76 (xbz b78) c79 t80 v83 t84 t98 t99 t103 (xr x100) (xr x102) (xr x44) (xr x67) (xr x77) (xr x81) (xr x85) (xr x97)) dX11_rekey_195 (fun x104 w105 o106 => ?_)
                                  refine lv_iload_n hx hb dX11_rekey_196 rfl (lv_at hl 3 rfl) ?_
                                  refine xi_cne (tgt := 236) hx hb (rfl : Int32.toInt x104 = x104.toInt) (rfl : Int32.toInt p1 = p1.toInt) dX11_rekey_197 (by decide) (fun c108 => ?_) (fun c108 => ?_)
                                  · exact J236 f68 _ _ _ hT.nil hS (lv_sub hl [1, 2, 3, 4, 5, 6] rfl)
                                  · refine lv_aload_n hx hb dX11_rekey_200 rfl (lv_at hl 1 rfl) ?_
                                    refine gX11_1 S hK hT ha kf_X11_9 dX11_rekey_201 (fun hk109 => ?_)
                                    refine lv_iload hx hb dX11_rekey_204 (lv_at hl 0 rfl) ?_
                                    refine lv_iconst (v := 1) hx hb dX11_rekey_206 (by decide) ?_
                                    refine xi_iadd hx hb (rfl : Int32.toInt x85 = x85.toInt) ((by decide) : Int32.toInt 1 = (1 : Int)) dX11_rekey_207 (fun x110 t111 => ?_)
                                    refine lv_aload_n hx hb dX11_rekey_208 rfl (lv_at hl 1 rfl) ?_
                                    refine lv_iload hx hb dX11_rekey_209 (lv_at hl 5 rfl) ?_
                                    refine lv_iconst (v := 2) hx hb dX11_rekey_211 (by decide) ?_
                                    refine x_clp (x_runV (b := a) (As := [.int x44, .int 2]) (rest := [.int x110, .ref (F a 1)]) S (c_X11_of l E K F tl 0 z1 z2 z3 z4 u1 u2 u3 z8 z9 z10 z11 z12 z13 z14 z15 z16 z17 z18 z19 z20 f68 ar1 ar2 ar3 ar4 ar5 ar6 ar7 ar8 ar9 ar10 H a x44 2 ha (z_X11_rekey_18 x100.toInt x102.toInt x110.toInt x44.toInt x67.toInt x77.toInt x81.toInt x85.toInt x97.toInt N46 N69 (aI ar1 (10 * x44.toInt + (0 : Int))) (aI ar1 (10 * x44.toInt + (1 : Int))) (aI ar1 (10 * x44.toInt + (2 : Int))) (aI ar1 (10 * x44.toInt + (3 : Int))) hf47 hm48 c50 hf70 hm71 c75 t76 (xbz b78) c79 t80 v83 t84 t98 t99 t103 t111 (xr x100) (xr x102) (xr x110) (xr x44) (xr x67) (xr x77) (xr x81) (xr x85) (xr x97)) (by decide)) mv_X11_of km_X11_165 rfl rfl ⟨Nat.le_of_ble_eq_true rfl, Nat.le_of_ble_eq_true rfl⟩ (rc_13 hK hT ha) hK (fun _ => XPh.blind) (fun U hU hW => XPh.at hK hz hS hT hU hW) rfl hl.1 (Nat.le_of_ble_eq_true rfl) dX11_rekey_212 ⟨Nat.le_of_ble_eq_true rfl, Nat.le_of_ble_eq_true rfl⟩) hS ?_
                                    rintro _ _ locs ⟨x113, rfl, t112⟩ hS
                                    have t112 : x113.toInt = (aI ar1 (10 * x44.toInt + (2 : Int))) := t112
                                    refine xi_iadd hx hb (rfl : Int32.toInt x110 = x110.toInt) (rfl : Int32.toInt x113 = x113.toInt) dX11_rekey_215 (fun x115 t116 => ?_)
                                    refine lv_aload_n hx hb dX11_rekey_216 rfl (lv_at hl 1 rfl) ?_
                                    refine lv_iload hx hb dX11_rekey_217 (lv_at hl 5 rfl) ?_
                                    refine lv_bipush (v := 8) hx hb dX11_rekey_219 (by decide) ?_
                                    refine x_clp (x_runV (b := a) (As := [.int x44, .int 8]) (rest := [.int x115, .ref (F a 1)]) S (c_X11_of l E K F tl 0 z1 z2 z3 z4 u1 u2 u3 z8 z9 z10 z11 z12 z13 z14 z15 z16 z17 z18 z19 z20 f68 ar1 ar2 ar3 ar4 ar5 ar6 ar7 ar8 ar9 ar10 H a x44 8 ha (z_X11_rekey_19 x100.toInt x102.toInt x110.toInt x113.toInt x115.toInt x44.toInt x67.toInt x77.toInt x81.toInt x85.toInt x97.toInt N46 N69 (aI ar1 (10 * x44.toInt + (0 : Int))) (aI ar1 (10 * x44.toInt + (1 : Int))) (aI ar1 (10 * x44.toInt + (2 : Int))) (aI ar1 (10 * x44.toInt + (3 : Int))) hf47 hm48 c50 hf70 hm71 c75 t76 (xbz b78) c79 t80 v83 t84 t98 t99 t103 t111 t112 t116 (xr x100) (xr x102) (xr x110) (xr x113) (xr x115) (xr x44) (xr x67) (xr x77) (xr x81) (xr x85) (xr x97)) (by decide)) mv_X11_of km_X11_165 rfl rfl ⟨Nat.le_of_ble_eq_true rfl, Nat.le_of_ble_eq_true rfl⟩ (rc_13 hK hT ha) hK (fun _ => XPh.blind) (fun U hU hW => XPh.at hK hz hS hT hU hW) rfl hl.1 (Nat.le_of_ble_eq_true rfl) dX11_rekey_221 ⟨Nat.le_of_ble_eq_true rfl, Nat.le_of_ble_eq_true rfl⟩) hS ?_
                                    rintro _ _ locs ⟨x118, rfl, t117⟩ hS
                                    have t117 : x118.toInt = (aI ar1 (10 * x44.toInt + (8 : Int))) := t117
                                    refine lv_iconst (v := 1) hx hb dX11_rekey_224 (by decide) ?_
                                    have J235 : ∀ (x120 : Int32) (H : Heap) (locs : List Loc) (ls : Array Slot), TW E K F (tl, [0, z1, z2, z3, z4, u1, u2, u3, z8, z9, z10, z11, z12, z13, z14, z15, z16, z17, z18, z19, z20], [f68, ar1, ar2, ar3, ar4, ar5, ar6, ar7, ar8, ar9, ar10]) [] H → va_S (xA E) s.heap H locs → lv_has ls 7 [(0, .ref a), (1, .int p0), (2, .int p1), (3, .int p2), (4, .int x44), (5, .int x67)] → W p l e rm_X11_rekey s m args below meth c H locs 0 0 Q (F0 m 235 ls [.int x120, .int x115, .ref (F a 1)]) := by
                                      intro x120 H locs ls hT hS hl
                                      refine tst_0 S hK hT hS hk109 (at_30 (f := f68) rfl) (fun _ => bt_30 (Nat.le_of_ble_eq_true rfl)) (by decide) (by decide) xti_30 (z_X11_rekey_20 x100.toInt x102.toInt x110.toInt x113.toInt x115.toInt x44.toInt x67.toInt x77.toInt x81.toInt x85.toInt x97.toInt N46 N69 (aI ar1 (10 * x44.toInt + (0 : Int))) (aI ar1 (10 * x44.toInt + (1 : Int))) (aI ar1 (10 * x44.toInt + (2 : Int))) (aI ar1 (10 * x44.toInt + (3 : Int))) hf47 hm48 c50 hf70 hm71 c75 t76 (xbz b78) c79 t80 v83 t84 t98 t99 t103 t111 t112 t116 (xr x100) (xr x102) (xr x110) (xr x113) (xr x115) (xr x44) (xr x67) (xr x77) (xr x81) (xr x85) (xr x97)) dX11_rekey_235 (fun f121 H locs hu122 hT hS => ?_)
                                      have hT : TW E K F (tl, [0, z1, z2, z3, z4, u1, u2, u3, z8, z9, z10, z11, z12, z13, z14, z15, z16, z17, z18, z19, z20], [f121, ar1, ar2, ar3, ar4, ar5, ar6, ar7, ar8, ar9, ar10]) [] H := hT
                                      exact J236 f121 _ _ _ hT.nil hS (lv_sub hl [0, 1, 2, 3, 4, 5] rfl)
                                    refine xi_cne (tgt := 232) hx hb (rfl : Int32.toInt x118 = x118.toInt) ((by decide) : Int32.toInt 1 = (1 : Int)) dX11_rekey_225 (by decide) (fun c123 => ?_) (fun c123 => ?_)
                                    · refine lv_sipush (v := (-1000)) hx hb dX11_rekey_232 (by decide) ?_
                                      exact J235 (-1000) _ _ _ hT.nil hS (lv_sub hl [1, 2, 3, 4, 5, 6] rfl)
                                    · refine lv_iload_n hx hb dX11_rekey_228 rfl (lv_at hl 4 rfl) ?_
                                      refine lv_goto (tgt := 235) hx hb dX11_rekey_229 (by decide) ?_
                                      exact J235 p2 _ _ _ hT.nil hS (lv_sub hl [1, 2, 3, 4, 5, 6] rfl)
                        exact L137 4294967297 0 f45 _ _ _ (by decide) (by decide) hT.nil hS (lv_sub hl [1, 2, 3, 4, 5, 0] rfl)
                  exact L127 4294967297 0 f42 _ _ _ (by decide) (by decide) hT.nil hS (lv_sub hl [1, 2, 3, 4, 0] rfl)
                · refine lv_aload_n hx hb dX11_rekey_81 rfl (lv_at hl 0 rfl) ?_
                  refine gX11_1 S hK hT ha kf_X11_9 dX11_rekey_82 (fun hk124 => ?_)
                  refine lv_iload_n hx hb dX11_rekey_85 rfl (lv_at hl 1 rfl) ?_
                  refine lv_iload_n hx hb dX11_rekey_86 rfl (lv_at hl 3 rfl) ?_
                  refine x_clp (x_runS (As := [.int p0, .int p2]) (rest := [.ref (F a 1)]) S (c_X11_at l E K F tl 0 z1 z2 z3 z4 u1 u2 u3 z8 z9 z10 z11 z12 z13 z14 z15 z16 z17 z18 z19 z20 f32 ar1 ar2 ar3 ar4 ar5 ar6 ar7 ar8 ar9 ar10 H p0 p2) ms_X11_at km_X11_156 rfl rfl ⟨Nat.le_of_ble_eq_true rfl, Nat.le_of_ble_eq_true rfl⟩ hK (fun _ => XPh.blind) (fun U hU hW => XPh.at hK hz hS hT hU hW) rfl hl.1 (Nat.le_of_ble_eq_true rfl) dX11_rekey_87 ⟨Nat.le_of_ble_eq_true rfl, Nat.le_of_ble_eq_true rfl⟩) hS ?_
                  rintro _ _ locs ⟨x126, rfl, t125⟩ hS
                  have t125 : 0 ≤ p0.toInt ∧ p0.toInt ≤ 2 ∧ 0 ≤ p2.toInt ∧ p2.toInt ≤ 29 → x126.toInt = 4 * (30 * p0.toInt + p2.toInt) := t125
                  refine lv_iload hx hb dX11_rekey_90 (lv_at hl 4 rfl) ?_
                  refine xi_iadd hx hb (rfl : Int32.toInt x126 = x126.toInt) (rfl : Int32.toInt x31 = x31.toInt) dX11_rekey_92 (fun x128 t129 => ?_)
                  refine lv_aload_n hx hb dX11_rekey_93 rfl (lv_at hl 0 rfl) ?_
                  refine gX11_1 S hK hT ha kf_X11_9 dX11_rekey_94 (fun hk130 => ?_)
                  refine lv_iload_n hx hb dX11_rekey_97 rfl (lv_at hl 1 rfl) ?_
                  refine lv_iload_n hx hb dX11_rekey_98 rfl (lv_at hl 2 rfl) ?_
                  refine x_clp (x_runS (As := [.int p0, .int p1]) (rest := [.ref (F a 1), .int x128, .ref (F a 1)]) S (c_X11_at l E K F tl 0 z1 z2 z3 z4 u1 u2 u3 z8 z9 z10 z11 z12 z13 z14 z15 z16 z17 z18 z19 z20 f32 ar1 ar2 ar3 ar4 ar5 ar6 ar7 ar8 ar9 ar10 H p0 p1) ms_X11_at km_X11_156 rfl rfl ⟨Nat.le_of_ble_eq_true rfl, Nat.le_of_ble_eq_true rfl⟩ hK (fun _ => XPh.blind) (fun U hU hW => XPh.at hK hz hS hT hU hW) rfl hl.1 (Nat.le_of_ble_eq_true rfl) dX11_rekey_99 ⟨Nat.le_of_ble_eq_true rfl, Nat.le_of_ble_eq_true rfl⟩) hS ?_
                  rintro _ _ locs ⟨x132, rfl, t131⟩ hS
                  have t131 : 0 ≤ p0.toInt ∧ p0.toInt ≤ 2 ∧ 0 ≤ p1.toInt ∧ p1.toInt ≤ 29 → x132.toInt = 4 * (30 * p0.toInt + p1.toInt) := t131
                  refine lv_iload hx hb dX11_rekey_102 (lv_at hl 4 rfl) ?_
                  refine xi_iadd hx hb (rfl : Int32.toInt x132 = x132.toInt) (rfl : Int32.toInt x31 = x31.toInt) dX11_rekey_104 (fun x134 t135 => ?_)
                  refine tld_0 S hK hT hk130 (at_30 (f := f32) rfl) (by decide) (z_X11_rekey_21 p0.toInt p1.toInt p2.toInt x126.toInt x128.toInt x132.toInt x134.toInt x14.toInt x18.toInt x22.toInt x26.toInt x31.toInt x8.toInt N33 (aI ar0 (4 * (30 * p0.toInt + p1.toInt))) (aI ar0 (4 * (30 * p0.toInt + p2.toInt))) t7 (xbz b9) c12 t13 (xbz b15) c16 t17 (xbz b19) c20 t21 (xbz b23) c24 t25 (xbz b27) c28 hf34 hm35 c37 t125 t129 t131 t135 (xr p0) (xr p1) (xr p2) (xr x126) (xr x128) (xr x132) (xr x134) (xr x14) (xr x18) (xr x22) (xr x26) (xr x31) (xr x8)) dX11_rekey_105 (fun x136 w137 o138 => ?_)
                  refine tst_0 S hK hT hS hk124 (at_30 (f := f32) rfl) (fun _ => bt_30 (Nat.le_of_ble_eq_true rfl)) (by decide) (by decide) xti_30 (z_X11_rekey_22 p0.toInt p1.toInt p2.toInt x126.toInt x128.toInt x132.toInt x134.toInt x14.toInt x18.toInt x22.toInt x26.toInt x31.toInt x8.toInt N33 (aI ar0 (4 * (30 * p0.toInt + p1.toInt))) (aI ar0 (4 * (30 * p0.toInt + p2.toInt))) t7 (xbz b9) c12 t13 (xbz b15) c16 t17 (xbz b19) c20 t21 (xbz b23) c24 t25 (xbz b27) c28 hf34 hm35 c37 t125 t129 t131 t135 (xr p0) (xr p1) (xr p2) (xr x126) (xr x128) (xr x132) (xr x134) (xr x14) (xr x18) (xr x22) (xr x26) (xr x31) (xr x8)) dX11_rekey_106 (fun f140 H locs hu141 hT hS => ?_)
                  have hT : TW E K F (tl, [0, z1, z2, z3, z4, u1, u2, u3, z8, z9, z10, z11, z12, z13, z14, z15, z16, z17, z18, z19, z20], [f140, ar1, ar2, ar3, ar4, ar5, ar6, ar7, ar8, ar9, ar10]) [] H := hT
                  refine xi_iinc (n := 1) (lv' := fun z9 => [(4, .int z9), (0, .ref a), (1, .int p0), (2, .int p1), (3, .int p2)]) (k := 4) hx hb (rfl : Int32.toInt x31 = x31.toInt) (by decide) dX11_rekey_107 hl rfl (by decide) (fun _ => rfl) (fun x142 ls t143 hl => ?_)
                  have hl : lv_has ls 7 [(4, .int x142), (0, .ref a), (1, .int p0), (2, .int p1), (3, .int p2)] := hl
                  refine lv_goto (tgt := 75) hx hb dX11_rekey_110 (by decide) ?_
                  exact ih36 x142 f140 _ _ _ (z_X11_rekey_23 p0.toInt p1.toInt p2.toInt x126.toInt x128.toInt x132.toInt x134.toInt x14.toInt x142.toInt x18.toInt x22.toInt x26.toInt x31.toInt x8.toInt N33 (aI ar0 (4 * (30 * p0.toInt + p1.toInt))) (aI ar0 (4 * (30 * p0.toInt + p2.toInt))) t7 (xbz b9) c12 t13 (xbz b15) c16 t17 (xbz b19) c20 t21 (xbz b23) c24 t25 (xbz b27) c28 hf34 hm35 c37 t125 t129 t131 t135 t143 (xr p0) (xr p1) (xr p2) (xr x126) (xr x128) (xr x132) (xr x134) (xr x14) (xr x142) (xr x18) (xr x22) (xr x26) (xr x31) (xr x8)) (z_X11_rekey_24 p0.toInt p1.toInt p2.toInt x126.toInt x128.toInt x132.toInt x134.toInt x14.toInt x142.toInt x18.toInt x22.toInt x26.toInt x31.toInt x8.toInt N33 (aI ar0 (4 * (30 * p0.toInt + p1.toInt))) (aI ar0 (4 * (30 * p0.toInt + p2.toInt))) t7 (xbz b9) c12 t13 (xbz b15) c16 t17 (xbz b19) c20 t21 (xbz b23) c24 t25 (xbz b27) c28 hf34 hm35 c37 t125 t129 t131 t135 t143 (xr p0) (xr p1) (xr p2) (xr x126) (xr x128) (xr x132) (xr x134) (xr x14) (xr x142) (xr x18) (xr x22) (xr x26) (xr x31) (xr x8)) hT.nil hS (lv_sub hl [1, 2, 3, 4, 0] rfl)
            exact L75 4294967297 0 ar0 _ _ _ (by decide) (by decide) hT.nil hS (lv_sub hl [1, 2, 3, 4, 0] rfl)
          · refine lv_aload_n hx hb dX11_rekey_61 rfl (lv_at hl 0 rfl) ?_
            refine lv_bipush (v := (-4)) hx hb dX11_rekey_62 (by decide) ?_
            refine x_cl0 (x_runV (b := a) (As := [.int (-4)]) (rest := []) S (c_X11_refuses l E K F tl 0 z1 z2 z3 z4 u1 u2 u3 z8 z9 z10 z11 z12 z13 z14 z15 z16 z17 z18 z19 z20 ar0 ar1 ar2 ar3 ar4 ar5 ar6 ar7 ar8 ar9 ar10 a (-4) ha) mv_X11_refuses km_X11_325 rfl rfl ⟨Nat.le_of_ble_eq_true rfl, Nat.le_of_ble_eq_true rfl⟩ (rc_13 hK hT ha) hK (fun _ => XP.blind) (fun U hU hW => XP.at hK hz hS hT hU hW) rfl hl.1 (Nat.le_of_ble_eq_true rfl) dX11_rekey_64 ⟨Nat.le_of_ble_eq_true rfl, Nat.le_of_ble_eq_true rfl⟩) hS ?_
            rintro _ _ H locs ⟨x144, rfl⟩ hT hS
            exact x_ri hx hb hr hlk hQ (Nat.le_of_ble_eq_true rfl) (Nat.le_of_ble_eq_true rfl) hS dX11_rekey_67 (0, z3, z4, u1, u2, u3, z12, z13, z14, z15, ar0, ar2, ar3, ar4) ⟨_, rfl, (z_X11_rekey_25 u3.toInt z12.toInt e1 t4 (xr u3) (xr z12))⟩ hT.nil
        · refine lv_aload_n hx hb dX11_rekey_45 rfl (lv_at hl 0 rfl) ?_
          refine lv_bipush (v := (-2)) hx hb dX11_rekey_46 (by decide) ?_
          refine x_cl0 (x_runV (b := a) (As := [.int (-2)]) (rest := []) S (c_X11_refuses l E K F tl 0 z1 z2 z3 z4 u1 u2 u3 z8 z9 z10 z11 z12 z13 z14 z15 z16 z17 z18 z19 z20 ar0 ar1 ar2 ar3 ar4 ar5 ar6 ar7 ar8 ar9 ar10 a (-2) ha) mv_X11_refuses km_X11_325 rfl rfl ⟨Nat.le_of_ble_eq_true rfl, Nat.le_of_ble_eq_true rfl⟩ (rc_13 hK hT ha) hK (fun _ => XP.blind) (fun U hU hW => XP.at hK hz hS hT hU hW) rfl hl.1 (Nat.le_of_ble_eq_true rfl) dX11_rekey_48 ⟨Nat.le_of_ble_eq_true rfl, Nat.le_of_ble_eq_true rfl⟩) hS ?_
          rintro _ _ H locs ⟨x146, rfl⟩ hT hS
          exact x_ri hx hb hr hlk hQ (Nat.le_of_ble_eq_true rfl) (Nat.le_of_ble_eq_true rfl) hS dX11_rekey_51 (0, z3, z4, u1, u2, u3, z12, z13, z14, z15, ar0, ar2, ar3, ar4) ⟨_, rfl, (z_X11_rekey_26 u3.toInt z12.toInt e1 t4 (xr u3) (xr z12))⟩ hT.nil
      · exact J30 _ _ _ hT.nil hS (lv_sub hl [0] rfl)

theorem z_X11_begin_1 (a0 : Int) (h0 : (0 : Int) ≤ a0) (r0 : -2147483648 ≤ a0 ∧ a0 < 2147483648) : ¬ (2147483648 - a0 < ((0 : Nat) : Int)) := by omega
theorem z_X11_begin_2 (a0 : Int) (r0 : -2147483648 ≤ a0 ∧ a0 < 2147483648) : (0 : Int) = 0 ∨ (0 : Int) = a0 := by omega
theorem z_X11_begin_3 (a0 : Int) (a1 : Nat) (h0 : (0 : Int) ≤ a0) (h1 : 2147483648 - a0 < ((a1 + 1 : Nat) : Int)) (h2 : ¬ ((6 : Int) ≤ a0)) (r0 : -2147483648 ≤ a0 ∧ a0 < 2147483648) : 0 ≤ a0 ∧ a0 < ((6 : Nat) : Int) := by omega
theorem z_X11_begin_4 (a0 : Int) (a1 : Int) (a2 : Nat) (h0 : (0 : Int) ≤ a1) (h1 : 2147483648 - a1 < ((a2 + 1 : Nat) : Int)) (h2 : ¬ ((6 : Int) ≤ a1)) (h3 : a0 = a1 + 1 ∨ a1 + 1 < -2147483648 ∨ 2147483648 ≤ a1 + 1) (r0 : -2147483648 ≤ a0 ∧ a0 < 2147483648) (r1 : -2147483648 ≤ a1 ∧ a1 < 2147483648) : (0 : Int) ≤ a0 := by omega
theorem z_X11_begin_5 (a0 : Int) (a1 : Int) (a2 : Nat) (h0 : (0 : Int) ≤ a1) (h1 : 2147483648 - a1 < ((a2 + 1 : Nat) : Int)) (h2 : ¬ ((6 : Int) ≤ a1)) (h3 : a0 = a1 + 1 ∨ a1 + 1 < -2147483648 ∨ 2147483648 ≤ a1 + 1) (r0 : -2147483648 ≤ a0 ∧ a0 < 2147483648) (r1 : -2147483648 ≤ a1 ∧ a1 < 2147483648) : 2147483648 - a0 < ((a2 : Nat) : Int) := by omega
theorem z_X11_begin_6 (a0 : Int) (r0 : -2147483648 ≤ a0 ∧ a0 < 2147483648) : a0 = 0 ∨ a0 = a0 := by omega
abbrev rm_X11_begin : Room := { frames := 1, cells := 0, slots := 0, locals := 24 }
set_option maxHeartbeats 4000000 in
set_option maxRecDepth 100000 in
theorem c_X11_begin (l : Launch) (E : XE) (K : Nat → Nat) (F : Nat → Nat → Nat) (tl z0 z1 z2 z3 z4 z5 z6 z7 z8 z9 z10 z11 z12 z13 z14 z15 z16 z17 z18 z19 z20 : Int32) (ar0 ar1 ar2 ar3 ar4 ar5 ar6 ar7 ar8 ar9 ar10 : Nat → Int32) (a : Nat) (ha : K a = 13) : Met l yX11_begin (xw yX11_begin cX11_begin 2 (some .int)) rm_X11_begin (va_Pc [.ref a] (XP E K F (tl, [z0, z1, z2, z3, z4, z5, z6, z7, z8, z9, z10, z11, z12, z13, z14, z15, z16, z17, z18, z19, z20], [ar0, ar1, ar2, ar3, ar4, ar5, ar6, ar7, ar8, ar9, ar10]))) (XQ E (fun v (u : Int32 × Int32 × Int32) => ∃ r : Int32, v = .int r ∧ (u.2.2.toInt = 0 ∨ u.2.2.toInt = z2.toInt)) (fun u H => TW E K F (tl, [u.1, u.2.1, u.2.2, z3, z4, z5, z6, z7, z8, z9, z10, z11, z12, z13, z14, z15, z16, z17, z18, z19, z20], [ar0, ar1, ar2, ar3, ar4, ar5, ar6, ar7, ar8, ar9, ar10]) [] H)) 0 0 (xA E) := by
  refine x_enter (by decide) (Nat.le_of_ble_eq_true rfl) ?_
  intro p e s m args below meth c Q S hr hlk hnm hQ hP ls hl
  obtain ⟨hz, hK, hT⟩ := hP
  obtain ⟨hx, hb, -, -, -⟩ := id S
  obtain ⟨H, hT, hS, hgo⟩ : ∃ H : Heap, TW E K F (tl, [z0, z1, z2, z3, z4, z5, z6, z7, z8, z9, z10, z11, z12, z13, z14, z15, z16, z17, z18, z19, z20], [ar0, ar1, ar2, ar3, ar4, ar5, ar6, ar7, ar8, ar9, ar10]) [] H ∧ va_S (xA E) s.heap H [] ∧ H = s.heap := ⟨_, hT, va_S.rf, rfl⟩
  rw [← hgo]
  have hl : lv_has ls 2 [(0, .ref a)] := hl
  refine lv_aload_n hx hb dX11_begin_0 rfl (lv_at hl 0 rfl) ?_
  refine lv_iconst (v := 0) hx hb dX11_begin_1 (by decide) ?_
  refine pX11_0 (kq := []) (v := 0) S hK hT hS ha kf_X11_134 (Nat.le_of_ble_eq_true rfl) dX11_begin_2 (fun _ h => by cases h) (fun H locs hT hS => ?_)
  have hT : TW E K F (tl, [0, z1, z2, z3, z4, z5, z6, z7, z8, z9, z10, z11, z12, z13, z14, z15, z16, z17, z18, z19, z20], [ar0, ar1, ar2, ar3, ar4, ar5, ar6, ar7, ar8, ar9, ar10]) [] H := hT
  refine lv_aload_n hx hb dX11_begin_5 rfl (lv_at hl 0 rfl) ?_
  refine gX11_6 S hK hT ha kf_X11_206 dX11_begin_6 (v := z1) rfl ?_
  refine xi_zeq (tgt := 15) hx hb (rfl : Int32.toInt z1 = z1.toInt) dX11_begin_9 (by decide) (fun c1 => ?_) (fun c1 => ?_)
  · refine lv_aload_n hx hb dX11_begin_15 rfl (lv_at hl 0 rfl) ?_
    refine lv_iconst (v := 1) hx hb dX11_begin_16 (by decide) ?_
    refine pX11_6 (kq := []) (v := 1) S hK hT hS ha kf_X11_206 (Or.inr rfl) (Nat.le_of_ble_eq_true rfl) dX11_begin_17 (fun _ h => by cases h) (fun H locs hT hS => ?_)
    have hT : TW E K F (tl, [0, 1, z2, z3, z4, z5, z6, z7, z8, z9, z10, z11, z12, z13, z14, z15, z16, z17, z18, z19, z20], [ar0, ar1, ar2, ar3, ar4, ar5, ar6, ar7, ar8, ar9, ar10]) [] H := hT
    refine lv_aload_n hx hb dX11_begin_20 rfl (lv_at hl 0 rfl) ?_
    refine lv_iconst (v := 0) hx hb dX11_begin_21 (by decide) ?_
    refine pX11_7 (kq := []) (v := 0) S hK hT hS ha kf_X11_373 (Nat.le_of_ble_eq_true rfl) dX11_begin_22 (fun _ h => by cases h) (fun H locs hT hS => ?_)
    have hT : TW E K F (tl, [0, 1, 0, z3, z4, z5, z6, z7, z8, z9, z10, z11, z12, z13, z14, z15, z16, z17, z18, z19, z20], [ar0, ar1, ar2, ar3, ar4, ar5, ar6, ar7, ar8, ar9, ar10]) [] H := hT
    refine lv_aload_n hx hb dX11_begin_25 rfl (lv_at hl 0 rfl) ?_
    refine gX11_1 S hK hT ha kf_X11_9 dX11_begin_26 (fun hk2 => ?_)
    refine lv_iconst (v := 0) hx hb dX11_begin_29 (by decide) ?_
    refine lv_aload_n hx hb dX11_begin_30 rfl (lv_at hl 0 rfl) ?_
    refine gX11_2 S hK hT ha kf_X11_15 dX11_begin_31 (fun hk3 => ?_)
    refine lv_iconst (v := 0) hx hb dX11_begin_34 (by decide) ?_
    refine x_cv0 (x_runS (As := [.ref (F a 1), .int 0, .ref (F a 2), .int 0]) (rest := []) S (c_X11_copy_u l E K F tl 0 1 0 z3 z4 z5 z6 z7 z8 z9 z10 z11 z12 z13 z14 z15 z16 z17 z18 z19 z20 ar0 ar1 ar2 ar3 ar4 ar5 ar6 ar7 ar8 ar9 ar10 (F a 1) 0 (F a 2) 0 (XO.a hk2 (by decide)) (XOu.b hk3 (by decide))) ms_X11_copy km_X11_309 rfl rfl ⟨Nat.le_of_ble_eq_true rfl, Nat.le_of_ble_eq_true rfl⟩ hK (fun _ => XP.blind) (fun U hU hW => XP.at hK hz hS hT hU hW) rfl hl.1 (Nat.le_of_ble_eq_true rfl) dX11_begin_35 ⟨Nat.le_of_ble_eq_true rfl, Nat.le_of_ble_eq_true rfl⟩) hS ?_
    rintro _ H locs - hT hS
    refine lv_iconst (v := 0) hx hb dX11_begin_38 (by decide) ?_
    refine lv_istore_n (lv' := [(1, .int 0), (0, .ref a)]) hx hb dX11_begin_39 rfl hl (by decide) rfl (fun ls hl => ?_)
    have L40 : ∀ (N7 : Nat) (x6 : Int32) (H : Heap) (locs : List Loc) (ls : Array Slot), (0 : Int) ≤ x6.toInt → 2147483648 - x6.toInt < ((N7 : Nat) : Int) → TW E K F (tl, [0, 1, 0, z3, z4, z5, z6, z7, z8, z9, z10, z11, z12, z13, z14, z15, z16, z17, z18, z19, z20], [ar0, ar1, ar2, ar3, ar4, ar5, ar6, ar7, ar8, ar9, ar10]) [] H → va_S (xA E) s.heap H locs → lv_has ls 2 [(0, .ref a), (1, .int x6)] → W p l e rm_X11_begin s m args below meth c H locs 0 0 Q (F0 m 40 ls []) := by
      intro N7
      induction N7 with
      | zero =>
        intro x6 H locs ls hf8 hm9
        exact absurd hm9 (z_X11_begin_1 x6.toInt hf8 (xr x6))
      | succ N7 ih10 =>
        intro x6 H locs ls hf8 hm9 hT hS hl
        refine lv_iload_n hx hb dX11_begin_40 rfl (lv_at hl 1 rfl) ?_
        refine lv_bipush (v := 6) hx hb dX11_begin_41 (by decide) ?_
        refine xi_cge (tgt := 59) hx hb (rfl : Int32.toInt x6 = x6.toInt) ((by decide) : Int32.toInt 6 = (6 : Int)) dX11_begin_43 (by decide) (fun c11 => ?_) (fun c11 => ?_)
        · refine lv_aload_n hx hb dX11_begin_59 rfl (lv_at hl 0 rfl) ?_
          refine x_clp (x_runV (b := a) (As := []) (rest := []) S (c_X11_rowMany l E K F tl 0 1 0 z3 z4 z5 z6 z7 z8 z9 z10 z11 z12 z13 z14 z15 z16 z17 z18 z19 z20 ar0 ar1 ar2 ar3 ar4 ar5 ar6 ar7 ar8 ar9 ar10 H a ha) mv_X11_rowMany km_X11_376 rfl rfl ⟨Nat.le_of_ble_eq_true rfl, Nat.le_of_ble_eq_true rfl⟩ (rc_13 hK hT ha) hK (fun _ => XPh.blind) (fun U hU hW => XPh.at hK hz hS hT hU hW) rfl hl.1 (Nat.le_of_ble_eq_true rfl) dX11_begin_60 ⟨Nat.le_of_ble_eq_true rfl, Nat.le_of_ble_eq_true rfl⟩) hS ?_
          rintro _ _ locs ⟨x12, rfl⟩ hS
          exact x_ri hx hb hr hlk hQ (Nat.le_of_ble_eq_true rfl) (Nat.le_of_ble_eq_true rfl) hS dX11_begin_63 (0, 1, 0) ⟨_, rfl, (z_X11_begin_2 z2.toInt (xr z2))⟩ hT.nil
        · refine lv_aload_n hx hb dX11_begin_46 rfl (lv_at hl 0 rfl) ?_
          refine gX11_8 S hK hT ha kf_X11_27 dX11_begin_47 (fun hk14 => ?_)
          refine lv_iload_n hx hb dX11_begin_50 rfl (lv_at hl 1 rfl) ?_
          refine lv_iconst (v := 0) hx hb dX11_begin_51 (by decide) ?_
          refine as_0 S hK hT hS hk14 ar_35 aw_35 (by decide) (z_X11_begin_3 x6.toInt N7 hf8 hm9 c11 (xr x6)) dX11_begin_52 (fun H locs hT hS => ?_)
          refine xi_iinc (n := 1) (lv' := fun z9 => [(1, .int z9), (0, .ref a)]) (k := 1) hx hb (rfl : Int32.toInt x6 = x6.toInt) (by decide) dX11_begin_53 hl rfl (by decide) (fun _ => rfl) (fun x15 ls t16 hl => ?_)
          have hl : lv_has ls 2 [(1, .int x15), (0, .ref a)] := hl
          refine lv_goto (tgt := 40) hx hb dX11_begin_56 (by decide) ?_
          exact ih10 x15 _ _ _ (z_X11_begin_4 x15.toInt x6.toInt N7 hf8 hm9 c11 t16 (xr x15) (xr x6)) (z_X11_begin_5 x15.toInt x6.toInt N7 hf8 hm9 c11 t16 (xr x15) (xr x6)) hT.nil hS (lv_sub hl [1, 0] rfl)
    exact L40 4294967297 0 _ _ _ (by decide) (by decide) hT.nil hS (lv_sub hl [1, 0] rfl)
  · refine lv_bipush (v := (-3)) hx hb dX11_begin_12 (by decide) ?_
    exact x_ri hx hb hr hlk hQ (Nat.le_of_ble_eq_true rfl) (Nat.le_of_ble_eq_true rfl) hS dX11_begin_14 (0, z1, z2) ⟨_, rfl, (z_X11_begin_6 z2.toInt (xr z2))⟩ hT.nil

theorem z_X11_commit_1 (a0 : Int) (a1 : Nat) (h0 : 0 ≤ a0 ∧ a0 ≤ 2388 ∧ a0 ≤ ((a1 : Nat) : Int)) (r0 : -2147483648 ≤ a0 ∧ a0 < 2147483648) : 0 ≤ a0 ∧ a0 ≤ 2388 ∧ a0 ≤ ((a1 : Nat) : Int) := by omega
theorem z_X11_commit_2 (a0 : Int) (a1 : Int) (a2 : Nat) (h0 : 0 ≤ a0 ∧ a0 ≤ 2388 ∧ a0 ≤ ((a2 : Nat) : Int)) (h1 : a1 = -1 ∨ (0 ≤ a1 ∧ a1 < a0)) (r0 : -2147483648 ≤ a0 ∧ a0 < 2147483648) (r1 : -2147483648 ≤ a1 ∧ a1 < 2147483648) : 0 ≤ a0 ∧ a0 ≤ 2388 ∧ a0 ≤ ((a2 : Nat) : Int) := by omega
theorem z_X11_commit_3 (a0 : Int) (a1 : Int) (a2 : Nat) (h0 : 0 ≤ a0 ∧ a0 ≤ 2388 ∧ a0 ≤ ((a2 : Nat) : Int)) (h1 : a1 = -1 ∨ (0 ≤ a1 ∧ a1 < a0)) (r0 : -2147483648 ≤ a0 ∧ a0 < 2147483648) (r1 : -2147483648 ≤ a1 ∧ a1 < 2147483648) : a1 = -1 ∨ (0 ≤ a1 ∧ a1 < a0) := by omega
theorem z_X11_commit_4 (a0 : Int) (a1 : Int) (h0 : a1 = 0) (h1 : 0 ≤ a0 ∧ a0 ≤ 2400) (r0 : -2147483648 ≤ a0 ∧ a0 < 2147483648) (r1 : -2147483648 ≤ a1 ∧ a1 < 2147483648) : 0 ≤ a1 ∧ a1 ≤ 24 ∧ 0 ≤ a0 ∧ a0 ≤ 2400 := by omega
theorem z_X11_commit_5 (a0 : Int) (a1 : Int) (a2 : Nat) (h0 : 0 ≤ a0 ∧ a0 ≤ 2388 ∧ a0 ≤ ((a2 : Nat) : Int)) (h1 : a1 = -1 ∨ (0 ≤ a1 ∧ a1 < a0)) (h2 : ¬ (a1 = (-1 : Int))) (r0 : -2147483648 ≤ a0 ∧ a0 < 2147483648) (r1 : -2147483648 ≤ a1 ∧ a1 < 2147483648) : 0 ≤ a1 ∧ a1 < ((2400 : Nat) : Int) := by omega
theorem z_X11_commit_6 (a0 : Int) (a1 : Int) (a2 : Nat) (h0 : 0 ≤ a0 ∧ a0 ≤ 2388 ∧ a0 ≤ ((a2 : Nat) : Int)) (h1 : a1 = -1 ∨ (0 ≤ a1 ∧ a1 < a0)) (h2 : ¬ (a1 = (-1 : Int))) (r0 : -2147483648 ≤ a0 ∧ a0 < 2147483648) (r1 : -2147483648 ≤ a1 ∧ a1 < 2147483648) : 0 ≤ a1 ∧ a1 < ((a2 : Nat) : Int) := by omega
theorem z_X11_commit_7 (a0 : Int) (a1 : Int) (a2 : Int) (h0 : a0 = a2) (h1 : 0 ≤ a0 ∧ a0 ≤ 11 ∧ 0 ≤ a1) (r0 : -2147483648 ≤ a0 ∧ a0 < 2147483648) : 0 ≤ a0 ∧ a0 ≤ 11 := by omega
theorem z_X11_commit_8 (a0 : Int) (a1 : Int) (a2 : Nat) (h0 : 0 ≤ a0 ∧ a0 ≤ 2388 ∧ a0 ≤ ((a2 : Nat) : Int)) (h1 : a1 = -1 ∨ (0 ≤ a1 ∧ a1 < a0)) (h2 : ¬ (a1 = (-1 : Int))) (r0 : -2147483648 ≤ a0 ∧ a0 < 2147483648) (r1 : -2147483648 ≤ a1 ∧ a1 < 2147483648) : 0 ≤ a1 ∧ a1 < ((2400 : Nat) : Int) := by omega
theorem z_X11_commit_9 (a0 : Int) (a1 : Int) (a2 : Nat) (h0 : 0 ≤ a0 ∧ a0 ≤ 2388 ∧ a0 ≤ ((a2 : Nat) : Int)) (h1 : a1 = -1 ∨ (0 ≤ a1 ∧ a1 < a0)) (h2 : ¬ (a1 = (-1 : Int))) (r0 : -2147483648 ≤ a0 ∧ a0 < 2147483648) (r1 : -2147483648 ≤ a1 ∧ a1 < 2147483648) : 0 ≤ a1 ∧ a1 < ((a2 : Nat) : Int) := by omega
theorem z_X11_commit_10 (a0 : Int) (a1 : Int) (a2 : Int) (a3 : Int) (a4 : Int) (a5 : Int) (a6 : Int) (a7 : Int) (h0 : a0 = a6) (h1 : 0 ≤ a0 ∧ a0 ≤ 11 ∧ 0 ≤ a2) (h2 : (-1 ≤ a2 ∧ a2 ≤ 5) ∧ (0 ≤ a3 ∧ a3 ≤ 2) ∧ (0 ≤ a4 ∧ a4 ≤ 2) ∧ (-1 ≤ a5 ∧ a5 ≤ 2) ∧ (a2 = 1 ∨ a2 = 3 ∨ a2 = 4 → 0 ≤ a5)) (h3 : a1 = a7) (h4 : -99 ≤ a1 ∧ a1 ≤ 99 ∧ (a2 = 2 ∨ a2 = 4 ∨ a2 = 5 → 0 ≤ a1 ∧ a1 ≤ 29)) (r0 : -2147483648 ≤ a0 ∧ a0 < 2147483648) (r1 : -2147483648 ≤ a1 ∧ a1 < 2147483648) : 0 ≤ a0 ∧ a0 ≤ 11 := by omega
theorem z_X11_commit_11 (a0 : Int) (a1 : Int) (h0 : 0 ≤ a0 ∧ a0 ≤ 2400) (h1 : 0 ≤ a1 ∧ a1 ≤ 24) (r0 : -2147483648 ≤ a0 ∧ a0 < 2147483648) (r1 : -2147483648 ≤ a1 ∧ a1 < 2147483648) : 0 ≤ a1 ∧ a1 ≤ 24 ∧ 0 ≤ a0 ∧ a0 ≤ 2400 := by omega
theorem z_X11_commit_12 (a0 : Int) (a1 : Int) (h0 : 0 ≤ a1 ∧ a1 ≤ 2400) (h1 : a0 = 0) (r0 : -2147483648 ≤ a0 ∧ a0 < 2147483648) (r1 : -2147483648 ≤ a1 ∧ a1 < 2147483648) : 0 ≤ a0 ∧ a0 ≤ 24 ∧ 0 ≤ a1 ∧ a1 ≤ 2400 := by omega
abbrev rm_X11_commit : Room := { frames := 5, cells := 0, slots := 0, locals := 125 }
set_option maxHeartbeats 4000000 in
set_option maxRecDepth 100000 in
theorem c_X11_commit (l : Launch) (E : XE) (K : Nat → Nat) (F : Nat → Nat → Nat) (tl z0 z1 z2 z3 z4 z5 z6 z7 z8 z9 z10 z11 z12 z13 z14 z15 z16 z17 z18 z19 z20 : Int32) (ar0 ar1 ar2 ar3 ar4 ar5 ar6 ar7 ar8 ar9 ar10 : Nat → Int32) (a : Nat) (ha : K a = 13) (hR : RV ar1) (e0 : 0 ≤ z7.toInt ∧ z7.toInt ≤ 24) (e1 : 0 ≤ z12.toInt ∧ z12.toInt ≤ 2400) : Met l yX11_commit (xw yX11_commit cX11_commit 1 (some .int)) rm_X11_commit (va_Pc [.ref a] (XP E K F (tl, [z0, z1, z2, z3, z4, z5, z6, z7, z8, z9, z10, z11, z12, z13, z14, z15, z16, z17, z18, z19, z20], [ar0, ar1, ar2, ar3, ar4, ar5, ar6, ar7, ar8, ar9, ar10]))) (XQ E (fun v (u : Int32 × Int32 × Int32 × Int32 × Int32 × Int32 × Int32 × Int32 × Int32 × Int32 × (Nat → Int32) × (Nat → Int32) × (Nat → Int32) × (Nat → Int32)) => ∃ r : Int32, v = .int r ∧ (0 ≤ u.2.2.2.2.2.2.1.toInt ∧ u.2.2.2.2.2.2.1.toInt ≤ 24 ∧ 0 ≤ u.2.2.2.2.2.2.2.1.toInt ∧ u.2.2.2.2.2.2.2.1.toInt ≤ 2400)) (fun u H => TW E K F (tl, [u.1, u.2.1, z2, u.2.2.1, u.2.2.2.1, u.2.2.2.2.1, u.2.2.2.2.2.1, u.2.2.2.2.2.2.1, z8, z9, z10, z11, u.2.2.2.2.2.2.2.1, u.2.2.2.2.2.2.2.2.1, z14, u.2.2.2.2.2.2.2.2.2.1, z16, z17, z18, z19, z20], [u.2.2.2.2.2.2.2.2.2.2.1, ar1, u.2.2.2.2.2.2.2.2.2.2.2.1, u.2.2.2.2.2.2.2.2.2.2.2.2.1, u.2.2.2.2.2.2.2.2.2.2.2.2.2, ar5, ar6, ar7, ar8, ar9, ar10]) [] H)) 0 0 (xA E) := by
  refine x_enter (by decide) (Nat.le_of_ble_eq_true rfl) ?_
  intro p e s m args below meth c Q S hr hlk hnm hQ hP ls hl
  obtain ⟨hz, hK, hT⟩ := hP
  obtain ⟨hx, hb, -, -, -⟩ := id S
  obtain ⟨H, hT, hS, hgo⟩ : ∃ H : Heap, TW E K F (tl, [z0, z1, z2, z3, z4, z5, z6, z7, z8, z9, z10, z11, z12, z13, z14, z15, z16, z17, z18, z19, z20], [ar0, ar1, ar2, ar3, ar4, ar5, ar6, ar7, ar8, ar9, ar10]) [] H ∧ va_S (xA E) s.heap H [] ∧ H = s.heap := ⟨_, hT, va_S.rf, rfl⟩
  rw [← hgo]
  have hl : lv_has ls 1 [(0, .ref a)] := hl
  refine lv_aload_n hx hb dX11_commit_0 rfl (lv_at hl 0 rfl) ?_
  refine lv_iconst (v := 0) hx hb dX11_commit_1 (by decide) ?_
  refine pX11_0 (kq := []) (v := 0) S hK hT hS ha kf_X11_134 (Nat.le_of_ble_eq_true rfl) dX11_commit_2 (fun _ h => by cases h) (fun H locs hT hS => ?_)
  have hT : TW E K F (tl, [0, z1, z2, z3, z4, z5, z6, z7, z8, z9, z10, z11, z12, z13, z14, z15, z16, z17, z18, z19, z20], [ar0, ar1, ar2, ar3, ar4, ar5, ar6, ar7, ar8, ar9, ar10]) [] H := hT
  refine lv_aload_n hx hb dX11_commit_5 rfl (lv_at hl 0 rfl) ?_
  refine x_cv0 (x_runV (b := a) (As := []) (rest := []) S (c_X11_nothing l E K F tl 0 z1 z2 z3 z4 z5 z6 z7 z8 z9 z10 z11 z12 z13 z14 z15 z16 z17 z18 z19 z20 ar0 ar1 ar2 ar3 ar4 ar5 ar6 ar7 ar8 ar9 ar10 a ha) mv_X11_nothing km_X11_231 rfl rfl ⟨Nat.le_of_ble_eq_true rfl, Nat.le_of_ble_eq_true rfl⟩ (rc_13 hK hT ha) hK (fun _ => XP.blind) (fun U hU hW => XP.at hK hz hS hT hU hW) rfl hl.1 (Nat.le_of_ble_eq_true rfl) dX11_commit_6 ⟨Nat.le_of_ble_eq_true rfl, Nat.le_of_ble_eq_true rfl⟩) hS ?_
  rintro ⟨u1, u2, u3⟩ H locs t4 hT hS
  have hT : TW E K F (tl, [0, z1, z2, z3, z4, u1, u2, u3, z8, z9, z10, z11, z12, z13, z14, z15, z16, z17, z18, z19, z20], [ar0, ar1, ar2, ar3, ar4, ar5, ar6, ar7, ar8, ar9, ar10]) [] H := hT
  have t4 : u3.toInt = 0 := t4
  refine lv_aload_n hx hb dX11_commit_9 rfl (lv_at hl 0 rfl) ?_
  refine gX11_6 S hK hT ha kf_X11_206 dX11_commit_10 (v := z1) rfl ?_
  refine xi_zne (tgt := 19) hx hb (rfl : Int32.toInt z1 = z1.toInt) dX11_commit_13 (by decide) (fun c7 => ?_) (fun c7 => ?_)
  · refine lv_aload_n hx hb dX11_commit_19 rfl (lv_at hl 0 rfl) ?_
    refine x_cv0 (x_runV (b := a) (As := []) (rest := []) S (c_X11_findQueue l E K F tl 0 z1 z2 z3 z4 u1 u2 u3 z8 z9 z10 z11 z12 z13 z14 z15 z16 z17 z18 z19 z20 ar0 ar1 ar2 ar3 ar4 ar5 ar6 ar7 ar8 ar9 ar10 a ha hR) mv_X11_findQueue km_X11_218 rfl rfl ⟨Nat.le_of_ble_eq_true rfl, Nat.le_of_ble_eq_true rfl⟩ (rc_13 hK hT ha) hK (fun _ => XP.blind) (fun U hU hW => XP.at hK hz hS hT hU hW) rfl hl.1 (Nat.le_of_ble_eq_true rfl) dX11_commit_20 ⟨Nat.le_of_ble_eq_true rfl, Nat.le_of_ble_eq_true rfl⟩) hS ?_
    rintro ⟨u8, u9, f10, f11, f12⟩ H locs t13 hT hS
    have hT : TW E K F (tl, [0, z1, z2, u8, u9, u1, u2, u3, z8, z9, z10, z11, z12, z13, z14, z15, z16, z17, z18, z19, z20], [ar0, ar1, f10, f11, f12, ar5, ar6, ar7, ar8, ar9, ar10]) [] H := hT
    have t13 : 0 ≤ u9.toInt ∧ u9.toInt ≤ 2388 ∧ u9.toInt ≤ (((fV ar1 f11 f12) : Nat) : Int) := t13
    refine lv_aload_n hx hb dX11_commit_23 rfl (lv_at hl 0 rfl) ?_
    refine lv_aload_n hx hb dX11_commit_24 rfl (lv_at hl 0 rfl) ?_
    refine x_clp (x_runV (b := a) (As := []) (rest := [.ref a]) S (c_X11_firstFailing l E K F tl 0 z1 z2 u8 u9 u1 u2 u3 z8 z9 z10 z11 z12 z13 z14 z15 z16 z17 z18 z19 z20 ar0 ar1 f10 f11 f12 ar5 ar6 ar7 ar8 ar9 ar10 H a ha hR (z_X11_commit_1 u9.toInt (fV ar1 f11 f12) t13 (xr u9))) mv_X11_firstFailing km_X11_313 rfl rfl ⟨Nat.le_of_ble_eq_true rfl, Nat.le_of_ble_eq_true rfl⟩ (rc_13 hK hT ha) hK (fun _ => XPh.blind) (fun U hU hW => XPh.at hK hz hS hT hU hW) rfl hl.1 (Nat.le_of_ble_eq_true rfl) dX11_commit_25 ⟨Nat.le_of_ble_eq_true rfl, Nat.le_of_ble_eq_true rfl⟩) hS ?_
    rintro _ _ locs ⟨x17, rfl, t16⟩ hS
    have t16 : x17.toInt = -1 ∨ (0 ≤ x17.toInt ∧ x17.toInt < u9.toInt) := t16
    refine pX11_46 (kq := []) (v := x17) S hK hT hS ha kf_X11_322 (Nat.le_of_ble_eq_true rfl) dX11_commit_28 (fun _ h => by cases h) (fun H locs hT hS => ?_)
    have hT : TW E K F (tl, [0, z1, z2, u8, u9, u1, u2, u3, z8, z9, z10, z11, z12, z13, z14, x17, z16, z17, z18, z19, z20], [ar0, ar1, f10, f11, f12, ar5, ar6, ar7, ar8, ar9, ar10]) [] H := hT
    refine lv_aload_n hx hb dX11_commit_31 rfl (lv_at hl 0 rfl) ?_
    refine x_cv0 (x_runV (b := a) (As := []) (rest := []) S (c_X11_takeAsked l E K F tl 0 z1 z2 u8 u9 u1 u2 u3 z8 z9 z10 z11 z12 z13 z14 x17 z16 z17 z18 z19 z20 ar0 ar1 f10 f11 f12 ar5 ar6 ar7 ar8 ar9 ar10 a ha hR (z_X11_commit_2 u9.toInt x17.toInt (fV ar1 f11 f12) t13 t16 (xr u9) (xr x17)) (z_X11_commit_3 u9.toInt x17.toInt (fV ar1 f11 f12) t13 t16 (xr u9) (xr x17))) mv_X11_takeAsked km_X11_337 rfl rfl ⟨Nat.le_of_ble_eq_true rfl, Nat.le_of_ble_eq_true rfl⟩ (rc_13 hK hT ha) hK (fun _ => XP.blind) (fun U hU hW => XP.at hK hz hS hT hU hW) rfl hl.1 (Nat.le_of_ble_eq_true rfl) dX11_commit_32 ⟨Nat.le_of_ble_eq_true rfl, Nat.le_of_ble_eq_true rfl⟩) hS ?_
    rintro ⟨u19, u20⟩ H locs t21 hT hS
    have hT : TW E K F (tl, [0, z1, z2, u8, u9, u1, u2, u3, z8, z9, z10, z11, u19, u20, z14, x17, z16, z17, z18, z19, z20], [ar0, ar1, f10, f11, f12, ar5, ar6, ar7, ar8, ar9, ar10]) [] H := hT
    have t21 : 0 ≤ u19.toInt ∧ u19.toInt ≤ 2400 := t21
    refine lv_aload_n hx hb dX11_commit_35 rfl (lv_at hl 0 rfl) ?_
    refine lv_iconst (v := 0) hx hb dX11_commit_36 (by decide) ?_
    refine pX11_6 (kq := []) (v := 0) S hK hT hS ha kf_X11_206 (Or.inl rfl) (Nat.le_of_ble_eq_true rfl) dX11_commit_37 (fun _ h => by cases h) (fun H locs hT hS => ?_)
    have hT : TW E K F (tl, [0, 0, z2, u8, u9, u1, u2, u3, z8, z9, z10, z11, u19, u20, z14, x17, z16, z17, z18, z19, z20], [ar0, ar1, f10, f11, f12, ar5, ar6, ar7, ar8, ar9, ar10]) [] H := hT
    refine lv_aload_n hx hb dX11_commit_40 rfl (lv_at hl 0 rfl) ?_
    refine gX11_46 S hK hT ha kf_X11_322 dX11_commit_41 (v := x17) rfl ?_
    refine lv_iconst (v := (-1)) hx hb dX11_commit_44 (by decide) ?_
    refine xi_ceq (tgt := 96) hx hb (rfl : Int32.toInt x17 = x17.toInt) ((by decide) : Int32.toInt (-1) = (-1 : Int)) dX11_commit_45 (by decide) (fun c24 => ?_) (fun c24 => ?_)
    · refine lv_aload_n hx hb dX11_commit_96 rfl (lv_at hl 0 rfl) ?_
      refine gX11_9 S hK hT ha kf_X11_30 dX11_commit_97 (fun hk25 => ?_)
      refine lv_iconst (v := 1) hx hb dX11_commit_100 (by decide) ?_
      refine lv_dup2_11 hx hb dX11_commit_101 rfl rfl ?_
      refine al_0 S hK hT hk25 ar_36 (by decide) (by decide) dX11_commit_102 (fun x26 o27 => ?_)
      refine lv_iconst (v := 1) hx hb dX11_commit_103 (by decide) ?_
      refine xi_iadd hx hb (rfl : Int32.toInt x26 = x26.toInt) ((by decide) : Int32.toInt 1 = (1 : Int)) dX11_commit_104 (fun x28 t29 => ?_)
      refine as_0 S hK hT hS hk25 ar_36 aw_36 (by decide) (by decide) dX11_commit_105 (fun H locs hT hS => ?_)
      refine lv_aload_n hx hb dX11_commit_106 rfl (lv_at hl 0 rfl) ?_
      refine gX11_43 S hK hT ha kf_X11_340 dX11_commit_107 (v := u19) rfl ?_
      exact x_ri hx hb hr hlk hQ (Nat.le_of_ble_eq_true rfl) (Nat.le_of_ble_eq_true rfl) hS dX11_commit_110 (0, 0, u8, u9, u1, u2, u3, u19, u20, x17, ar0, f10, f11, f12) ⟨_, rfl, (z_X11_commit_4 u19.toInt u3.toInt t4 t21 (xr u19) (xr u3))⟩ hT.nil
    · refine lv_aload_n hx hb dX11_commit_48 rfl (lv_at hl 0 rfl) ?_
      refine lv_aload_n hx hb dX11_commit_49 rfl (lv_at hl 0 rfl) ?_
      refine gX11_17 S hK hT ha kf_X11_51 dX11_commit_50 (fun hk30 => ?_)
      refine lv_aload_n hx hb dX11_commit_53 rfl (lv_at hl 0 rfl) ?_
      refine gX11_46 S hK hT ha kf_X11_322 dX11_commit_54 (v := x17) rfl ?_
      refine tld_0 S hK hT hk30 (at_43 (f := f11) rfl) (by decide) (z_X11_commit_5 u9.toInt x17.toInt (fV ar1 f11 f12) t13 t16 c24 (xr u9) (xr x17)) dX11_commit_57 (fun x31 w32 o33 => ?_)
      have v35 : 0 ≤ x31.toInt ∧ x31.toInt ≤ 11 ∧ 0 ≤ (aI ar1 (10 * x31.toInt + (0 : Int))) := fV_rule (f4 := f12) w32 (z_X11_commit_6 u9.toInt x17.toInt (fV ar1 f11 f12) t13 t16 c24 (xr u9) (xr x17))
      have v36 : (-1 ≤ (aI ar1 (10 * x31.toInt + (0 : Int))) ∧ (aI ar1 (10 * x31.toInt + (0 : Int))) ≤ 5) ∧ (0 ≤ (aI ar1 (10 * x31.toInt + (1 : Int))) ∧ (aI ar1 (10 * x31.toInt + (1 : Int))) ≤ 2) ∧ (0 ≤ (aI ar1 (10 * x31.toInt + (2 : Int))) ∧ (aI ar1 (10 * x31.toInt + (2 : Int))) ≤ 2) ∧ (-1 ≤ (aI ar1 (10 * x31.toInt + (3 : Int))) ∧ (aI ar1 (10 * x31.toInt + (3 : Int))) ≤ 2) ∧ ((aI ar1 (10 * x31.toInt + (0 : Int))) = 1 ∨ (aI ar1 (10 * x31.toInt + (0 : Int))) = 3 ∨ (aI ar1 (10 * x31.toInt + (0 : Int))) = 4 → 0 ≤ (aI ar1 (10 * x31.toInt + (3 : Int)))) := RV.row hR (z_X11_commit_7 x31.toInt (aI ar1 (10 * x31.toInt + (0 : Int))) (aI f11 x17.toInt) w32 v35 (xr x31))
      refine lv_aload_n hx hb dX11_commit_58 rfl (lv_at hl 0 rfl) ?_
      refine gX11_18 S hK hT ha kf_X11_54 dX11_commit_59 (fun hk37 => ?_)
      refine lv_aload_n hx hb dX11_commit_62 rfl (lv_at hl 0 rfl) ?_
      refine gX11_46 S hK hT ha kf_X11_322 dX11_commit_63 (v := x17) rfl ?_
      refine tld_0 S hK hT hk37 (at_44 (f := f12) rfl) (by decide) (z_X11_commit_8 u9.toInt x17.toInt (fV ar1 f11 f12) t13 t16 c24 (xr u9) (xr x17)) dX11_commit_66 (fun x38 w39 o40 => ?_)
      have v42 : -99 ≤ x38.toInt ∧ x38.toInt ≤ 99 ∧ ((aI ar1 (10 * x31.toInt + (0 : Int))) = 2 ∨ (aI ar1 (10 * x31.toInt + (0 : Int))) = 4 ∨ (aI ar1 (10 * x31.toInt + (0 : Int))) = 5 → 0 ≤ x38.toInt ∧ x38.toInt ≤ 29) := fV_sub w32 w39 (z_X11_commit_9 u9.toInt x17.toInt (fV ar1 f11 f12) t13 t16 c24 (xr u9) (xr x17))
      refine x_cv0 (x_runV (b := a) (As := [.int x31, .int x38]) (rest := []) S (c_X11_failed l E K F tl 0 0 z2 u8 u9 u1 u2 u3 z8 z9 z10 z11 u19 u20 z14 x17 z16 z17 z18 z19 z20 ar0 ar1 f10 f11 f12 ar5 ar6 ar7 ar8 ar9 ar10 a x31 x38 ha (z_X11_commit_10 x31.toInt x38.toInt (aI ar1 (10 * x31.toInt + (0 : Int))) (aI ar1 (10 * x31.toInt + (1 : Int))) (aI ar1 (10 * x31.toInt + (2 : Int))) (aI ar1 (10 * x31.toInt + (3 : Int))) (aI f11 x17.toInt) (aI f12 x17.toInt) w32 v35 v36 w39 v42 (xr x31) (xr x38))) mv_X11_failed km_X11_299 rfl rfl ⟨Nat.le_of_ble_eq_true rfl, Nat.le_of_ble_eq_true rfl⟩ (rc_13 hK hT ha) hK (fun _ => XP.blind) (fun U hU hW => XP.at hK hz hS hT hU hW) rfl hl.1 (Nat.le_of_ble_eq_true rfl) dX11_commit_67 ⟨Nat.le_of_ble_eq_true rfl, Nat.le_of_ble_eq_true rfl⟩) hS ?_
      rintro ⟨u43, u44, u45⟩ H locs t46 hT hS
      have hT : TW E K F (tl, [0, 0, z2, u8, u9, u43, u44, u45, z8, z9, z10, z11, u19, u20, z14, x17, z16, z17, z18, z19, z20], [ar0, ar1, f10, f11, f12, ar5, ar6, ar7, ar8, ar9, ar10]) [] H := hT
      have t46 : 0 ≤ u45.toInt ∧ u45.toInt ≤ 24 := t46
      refine lv_aload_n hx hb dX11_commit_70 rfl (lv_at hl 0 rfl) ?_
      refine gX11_2 S hK hT ha kf_X11_15 dX11_commit_71 (fun hk49 => ?_)
      refine lv_iconst (v := 0) hx hb dX11_commit_74 (by decide) ?_
      refine lv_aload_n hx hb dX11_commit_75 rfl (lv_at hl 0 rfl) ?_
      refine gX11_1 S hK hT ha kf_X11_9 dX11_commit_76 (fun hk50 => ?_)
      refine lv_iconst (v := 0) hx hb dX11_commit_79 (by decide) ?_
      refine x_cv0 (x_runS (As := [.ref (F a 2), .int 0, .ref (F a 1), .int 0]) (rest := []) S (c_X11_copy_r l E K F tl 0 0 z2 u8 u9 u43 u44 u45 z8 z9 z10 z11 u19 u20 z14 x17 z16 z17 z18 z19 z20 ar0 ar1 f10 f11 f12 ar5 ar6 ar7 ar8 ar9 ar10 (F a 2) 0 (F a 1) 0 (XO.b hk49 (by decide)) hk50 (by decide)) ms_X11_copy km_X11_309 rfl rfl ⟨Nat.le_of_ble_eq_true rfl, Nat.le_of_ble_eq_true rfl⟩ hK (fun _ => XP.blind) (fun U hU hW => XP.at hK hz hS hT hU hW) rfl hl.1 (Nat.le_of_ble_eq_true rfl) dX11_commit_80 ⟨Nat.le_of_ble_eq_true rfl, Nat.le_of_ble_eq_true rfl⟩) hS ?_
      rintro f51 H locs - hT hS
      have hT : TW E K F (tl, [0, 0, z2, u8, u9, u43, u44, u45, z8, z9, z10, z11, u19, u20, z14, x17, z16, z17, z18, z19, z20], [f51, ar1, f10, f11, f12, ar5, ar6, ar7, ar8, ar9, ar10]) [] H := hT
      refine lv_aload_n hx hb dX11_commit_83 rfl (lv_at hl 0 rfl) ?_
      refine gX11_9 S hK hT ha kf_X11_30 dX11_commit_84 (fun hk54 => ?_)
      refine lv_iconst (v := 2) hx hb dX11_commit_87 (by decide) ?_
      refine lv_dup2_11 hx hb dX11_commit_88 rfl rfl ?_
      refine al_0 S hK hT hk54 ar_36 (by decide) (by decide) dX11_commit_89 (fun x55 o56 => ?_)
      refine lv_iconst (v := 1) hx hb dX11_commit_90 (by decide) ?_
      refine xi_iadd hx hb (rfl : Int32.toInt x55 = x55.toInt) ((by decide) : Int32.toInt 1 = (1 : Int)) dX11_commit_91 (fun x57 t58 => ?_)
      refine as_0 S hK hT hS hk54 ar_36 aw_36 (by decide) (by decide) dX11_commit_92 (fun H locs hT hS => ?_)
      refine lv_bipush (v := (-5)) hx hb dX11_commit_93 (by decide) ?_
      exact x_ri hx hb hr hlk hQ (Nat.le_of_ble_eq_true rfl) (Nat.le_of_ble_eq_true rfl) hS dX11_commit_95 (0, 0, u8, u9, u43, u44, u45, u19, u20, x17, f51, f10, f11, f12) ⟨_, rfl, (z_X11_commit_11 u19.toInt u45.toInt t21 t46 (xr u19) (xr u45))⟩ hT.nil
  · refine lv_bipush (v := (-3)) hx hb dX11_commit_16 (by decide) ?_
    exact x_ri hx hb hr hlk hQ (Nat.le_of_ble_eq_true rfl) (Nat.le_of_ble_eq_true rfl) hS dX11_commit_18 (0, z1, z3, z4, u1, u2, u3, z12, z13, z15, ar0, ar2, ar3, ar4) ⟨_, rfl, (z_X11_commit_12 u3.toInt z12.toInt e1 t4 (xr u3) (xr z12))⟩ hT.nil

abbrev rm_X11_abort : Room := { frames := 6, cells := 0, slots := 0, locals := 142 }
set_option maxHeartbeats 4000000 in
set_option maxRecDepth 100000 in
theorem c_X11_abort (l : Launch) (E : XE) (K : Nat → Nat) (F : Nat → Nat → Nat) (tl z0 z1 z2 z3 z4 z5 z6 z7 z8 z9 z10 z11 z12 z13 z14 z15 z16 z17 z18 z19 z20 : Int32) (ar0 ar1 ar2 ar3 ar4 ar5 ar6 ar7 ar8 ar9 ar10 : Nat → Int32) (a : Nat) (ha : K a = 13) (hR : RV ar1) : Met l yX11_abort (xw yX11_abort cX11_abort 2 (some .int)) rm_X11_abort (va_Pc [.ref a] (XP E K F (tl, [z0, z1, z2, z3, z4, z5, z6, z7, z8, z9, z10, z11, z12, z13, z14, z15, z16, z17, z18, z19, z20], [ar0, ar1, ar2, ar3, ar4, ar5, ar6, ar7, ar8, ar9, ar10]))) (XQ E (fun v (u : Int32 × Int32 × Int32 × Int32 × (Nat → Int32) × (Nat → Int32) × (Nat → Int32) × (Nat → Int32)) => ∃ r : Int32, v = .int r) (fun u H => TW E K F (tl, [u.1, u.2.1, z2, u.2.2.1, u.2.2.2.1, z5, z6, z7, z8, z9, z10, z11, z12, z13, z14, z15, z16, z17, z18, z19, z20], [u.2.2.2.2.1, ar1, u.2.2.2.2.2.1, u.2.2.2.2.2.2.1, u.2.2.2.2.2.2.2, ar5, ar6, ar7, ar8, ar9, ar10]) [] H)) 0 0 (xA E) := by
  refine x_enter (by decide) (Nat.le_of_ble_eq_true rfl) ?_
  intro p e s m args below meth c Q S hr hlk hnm hQ hP ls hl
  obtain ⟨hz, hK, hT⟩ := hP
  obtain ⟨hx, hb, -, -, -⟩ := id S
  obtain ⟨H, hT, hS, hgo⟩ : ∃ H : Heap, TW E K F (tl, [z0, z1, z2, z3, z4, z5, z6, z7, z8, z9, z10, z11, z12, z13, z14, z15, z16, z17, z18, z19, z20], [ar0, ar1, ar2, ar3, ar4, ar5, ar6, ar7, ar8, ar9, ar10]) [] H ∧ va_S (xA E) s.heap H [] ∧ H = s.heap := ⟨_, hT, va_S.rf, rfl⟩
  rw [← hgo]
  have hl : lv_has ls 2 [(0, .ref a)] := hl
  refine lv_aload_n hx hb dX11_abort_0 rfl (lv_at hl 0 rfl) ?_
  refine lv_iconst (v := 0) hx hb dX11_abort_1 (by decide) ?_
  refine pX11_0 (kq := []) (v := 0) S hK hT hS ha kf_X11_134 (Nat.le_of_ble_eq_true rfl) dX11_abort_2 (fun _ h => by cases h) (fun H locs hT hS => ?_)
  have hT : TW E K F (tl, [0, z1, z2, z3, z4, z5, z6, z7, z8, z9, z10, z11, z12, z13, z14, z15, z16, z17, z18, z19, z20], [ar0, ar1, ar2, ar3, ar4, ar5, ar6, ar7, ar8, ar9, ar10]) [] H := hT
  refine lv_aload_n hx hb dX11_abort_5 rfl (lv_at hl 0 rfl) ?_
  refine gX11_6 S hK hT ha kf_X11_206 dX11_abort_6 (v := z1) rfl ?_
  refine xi_zne (tgt := 15) hx hb (rfl : Int32.toInt z1 = z1.toInt) dX11_abort_9 (by decide) (fun c1 => ?_) (fun c1 => ?_)
  · refine lv_aload_n hx hb dX11_abort_15 rfl (lv_at hl 0 rfl) ?_
    refine x_cl0 (x_runV (b := a) (As := []) (rest := []) S (c_X11_queueMany l E K F tl 0 z1 z2 z3 z4 z5 z6 z7 z8 z9 z10 z11 z12 z13 z14 z15 z16 z17 z18 z19 z20 ar0 ar1 ar2 ar3 ar4 ar5 ar6 ar7 ar8 ar9 ar10 a ha hR) mv_X11_queueMany km_X11_379 rfl rfl ⟨Nat.le_of_ble_eq_true rfl, Nat.le_of_ble_eq_true rfl⟩ (rc_13 hK hT ha) hK (fun _ => XP.blind) (fun U hU hW => XP.at hK hz hS hT hU hW) rfl hl.1 (Nat.le_of_ble_eq_true rfl) dX11_abort_16 ⟨Nat.le_of_ble_eq_true rfl, Nat.le_of_ble_eq_true rfl⟩) hS ?_
    rintro _ ⟨u2, u3, f4, f5, f6⟩ H locs ⟨x8, rfl, t7⟩ hT hS
    have hT : TW E K F (tl, [0, z1, z2, u2, u3, z5, z6, z7, z8, z9, z10, z11, z12, z13, z14, z15, z16, z17, z18, z19, z20], [ar0, ar1, f4, f5, f6, ar5, ar6, ar7, ar8, ar9, ar10]) [] H := hT
    have t7 : 0 ≤ u3.toInt ∧ u3.toInt ≤ 2388 ∧ u3.toInt ≤ (((fV ar1 f5 f6) : Nat) : Int) := t7
    refine lv_istore_n (lv' := [(1, .int x8), (0, .ref a)]) hx hb dX11_abort_19 rfl hl (by decide) rfl (fun ls hl => ?_)
    refine lv_aload_n hx hb dX11_abort_20 rfl (lv_at hl 1 rfl) ?_
    refine gX11_2 S hK hT ha kf_X11_15 dX11_abort_21 (fun hk10 => ?_)
    refine lv_iconst (v := 0) hx hb dX11_abort_24 (by decide) ?_
    refine lv_aload_n hx hb dX11_abort_25 rfl (lv_at hl 1 rfl) ?_
    refine gX11_1 S hK hT ha kf_X11_9 dX11_abort_26 (fun hk11 => ?_)
    refine lv_iconst (v := 0) hx hb dX11_abort_29 (by decide) ?_
    refine x_cv0 (x_runS (As := [.ref (F a 2), .int 0, .ref (F a 1), .int 0]) (rest := []) S (c_X11_copy_r l E K F tl 0 z1 z2 u2 u3 z5 z6 z7 z8 z9 z10 z11 z12 z13 z14 z15 z16 z17 z18 z19 z20 ar0 ar1 f4 f5 f6 ar5 ar6 ar7 ar8 ar9 ar10 (F a 2) 0 (F a 1) 0 (XO.b hk10 (by decide)) hk11 (by decide)) ms_X11_copy km_X11_309 rfl rfl ⟨Nat.le_of_ble_eq_true rfl, Nat.le_of_ble_eq_true rfl⟩ hK (fun _ => XP.blind) (fun U hU hW => XP.at hK hz hS hT hU hW) rfl hl.1 (Nat.le_of_ble_eq_true rfl) dX11_abort_30 ⟨Nat.le_of_ble_eq_true rfl, Nat.le_of_ble_eq_true rfl⟩) hS ?_
    rintro f12 H locs - hT hS
    have hT : TW E K F (tl, [0, z1, z2, u2, u3, z5, z6, z7, z8, z9, z10, z11, z12, z13, z14, z15, z16, z17, z18, z19, z20], [f12, ar1, f4, f5, f6, ar5, ar6, ar7, ar8, ar9, ar10]) [] H := hT
    refine lv_aload_n hx hb dX11_abort_33 rfl (lv_at hl 1 rfl) ?_
    refine lv_iconst (v := 0) hx hb dX11_abort_34 (by decide) ?_
    refine pX11_6 (kq := []) (v := 0) S hK hT hS ha kf_X11_206 (Or.inl rfl) (Nat.le_of_ble_eq_true rfl) dX11_abort_35 (fun _ h => by cases h) (fun H locs hT hS => ?_)
    have hT : TW E K F (tl, [0, 0, z2, u2, u3, z5, z6, z7, z8, z9, z10, z11, z12, z13, z14, z15, z16, z17, z18, z19, z20], [f12, ar1, f4, f5, f6, ar5, ar6, ar7, ar8, ar9, ar10]) [] H := hT
    refine lv_aload_n hx hb dX11_abort_38 rfl (lv_at hl 1 rfl) ?_
    refine gX11_9 S hK hT ha kf_X11_30 dX11_abort_39 (fun hk15 => ?_)
    refine lv_iconst (v := 3) hx hb dX11_abort_42 (by decide) ?_
    refine lv_dup2_11 hx hb dX11_abort_43 rfl rfl ?_
    refine al_0 S hK hT hk15 ar_36 (by decide) (by decide) dX11_abort_44 (fun x16 o17 => ?_)
    refine lv_iconst (v := 1) hx hb dX11_abort_45 (by decide) ?_
    refine xi_iadd hx hb (rfl : Int32.toInt x16 = x16.toInt) ((by decide) : Int32.toInt 1 = (1 : Int)) dX11_abort_46 (fun x18 t19 => ?_)
    refine as_0 S hK hT hS hk15 ar_36 aw_36 (by decide) (by decide) dX11_abort_47 (fun H locs hT hS => ?_)
    refine lv_iload_n hx hb dX11_abort_48 rfl (lv_at hl 0 rfl) ?_
    exact x_ri hx hb hr hlk hQ (Nat.le_of_ble_eq_true rfl) (Nat.le_of_ble_eq_true rfl) hS dX11_abort_49 (0, 0, u2, u3, f12, f4, f5, f6) ⟨_, rfl⟩ hT.nil
  · refine lv_bipush (v := (-3)) hx hb dX11_abort_12 (by decide) ?_
    exact x_ri hx hb hr hlk hQ (Nat.le_of_ble_eq_true rfl) (Nat.le_of_ble_eq_true rfl) hS dX11_abort_14 (0, z1, z3, z4, ar0, ar2, ar3, ar4) ⟨_, rfl⟩ hT.nil

theorem z_X11_mark_1 (a0 : Int) (a1 : Int) (h0 : 0 ≤ a1 ∧ a1 ≤ 8) (h1 : a1 ≠ (8 : Int)) (h2 : a0 = (360 : Int) * a1 ∨ (360 : Int) * a1 < -2147483648 ∨ 2147483648 ≤ (360 : Int) * a1) (r0 : -2147483648 ≤ a0 ∧ a0 < 2147483648) (r1 : -2147483648 ≤ a1 ∧ a1 < 2147483648) : 0 ≤ a0 ∧ a0 ≤ 2520 := by omega
theorem z_X11_mark_2 (a0 : Int) (a1 : Int) (a2 : Int) (a3 : Int) (h0 : 0 ≤ a3 ∧ a3 ≤ 8) (h1 : a3 ≠ (8 : Int)) (h2 : a1 = (360 : Int) * a3 ∨ (360 : Int) * a3 < -2147483648 ∨ 2147483648 ≤ (360 : Int) * a3) (h3 : a2 = a3 + (1 : Int) ∨ a3 + (1 : Int) < -2147483648 ∨ 2147483648 ≤ a3 + (1 : Int)) (h4 : a0 = a2 - (1 : Int) ∨ a2 - (1 : Int) < -2147483648 ∨ 2147483648 ≤ a2 - (1 : Int)) (r0 : -2147483648 ≤ a0 ∧ a0 < 2147483648) (r1 : -2147483648 ≤ a1 ∧ a1 < 2147483648) (r2 : -2147483648 ≤ a2 ∧ a2 < 2147483648) (r3 : -2147483648 ≤ a3 ∧ a3 < 2147483648) : 0 ≤ a2 ∧ a2 ≤ 8 := by omega
theorem z_X11_mark_3 (a0 : Int) (h0 : 0 ≤ a0 ∧ a0 ≤ 8) (h1 : ¬ (a0 ≠ (8 : Int))) (r0 : -2147483648 ≤ a0 ∧ a0 < 2147483648) : 0 ≤ a0 ∧ a0 ≤ 8 := by omega
theorem z_X11_mark_4 (a0 : Int) (h0 : 0 ≤ a0 ∧ a0 ≤ 8) (r0 : -2147483648 ≤ a0 ∧ a0 < 2147483648) : 0 ≤ a0 ∧ a0 ≤ 8 := by omega
abbrev rm_X11_mark : Room := { frames := 1, cells := 0, slots := 0, locals := 24 }
set_option maxHeartbeats 4000000 in
set_option maxRecDepth 100000 in
theorem c_X11_mark (l : Launch) (E : XE) (K : Nat → Nat) (F : Nat → Nat → Nat) (tl z0 z1 z2 z3 z4 z5 z6 z7 z8 z9 z10 z11 z12 z13 z14 z15 z16 z17 z18 z19 z20 : Int32) (ar0 ar1 ar2 ar3 ar4 ar5 ar6 ar7 ar8 ar9 ar10 : Nat → Int32) (a : Nat) (ha : K a = 13) (e0 : 0 ≤ z2.toInt ∧ z2.toInt ≤ 8) : Met l yX11_mark (xw yX11_mark cX11_mark 1 (some .int)) rm_X11_mark (va_Pc [.ref a] (XP E K F (tl, [z0, z1, z2, z3, z4, z5, z6, z7, z8, z9, z10, z11, z12, z13, z14, z15, z16, z17, z18, z19, z20], [ar0, ar1, ar2, ar3, ar4, ar5, ar6, ar7, ar8, ar9, ar10]))) (XQ E (fun v (u : Int32 × Int32) => ∃ r : Int32, v = .int r ∧ (0 ≤ u.2.toInt ∧ u.2.toInt ≤ 8)) (fun u H => TW E K F (tl, [u.1, z1, u.2, z3, z4, z5, z6, z7, z8, z9, z10, z11, z12, z13, z14, z15, z16, z17, z18, z19, z20], [ar0, ar1, ar2, ar3, ar4, ar5, ar6, ar7, ar8, ar9, ar10]) [] H)) 0 0 (xA E) := by
  refine x_enter (by decide) (Nat.le_of_ble_eq_true rfl) ?_
  intro p e s m args below meth c Q S hr hlk hnm hQ hP ls hl
  obtain ⟨hz, hK, hT⟩ := hP
  obtain ⟨hx, hb, -, -, -⟩ := id S
  obtain ⟨H, hT, hS, hgo⟩ : ∃ H : Heap, TW E K F (tl, [z0, z1, z2, z3, z4, z5, z6, z7, z8, z9, z10, z11, z12, z13, z14, z15, z16, z17, z18, z19, z20], [ar0, ar1, ar2, ar3, ar4, ar5, ar6, ar7, ar8, ar9, ar10]) [] H ∧ va_S (xA E) s.heap H [] ∧ H = s.heap := ⟨_, hT, va_S.rf, rfl⟩
  rw [← hgo]
  have hl : lv_has ls 1 [(0, .ref a)] := hl
  refine lv_aload_n hx hb dX11_mark_0 rfl (lv_at hl 0 rfl) ?_
  refine lv_iconst (v := 0) hx hb dX11_mark_1 (by decide) ?_
  refine pX11_0 (kq := []) (v := 0) S hK hT hS ha kf_X11_134 (Nat.le_of_ble_eq_true rfl) dX11_mark_2 (fun _ h => by cases h) (fun H locs hT hS => ?_)
  have hT : TW E K F (tl, [0, z1, z2, z3, z4, z5, z6, z7, z8, z9, z10, z11, z12, z13, z14, z15, z16, z17, z18, z19, z20], [ar0, ar1, ar2, ar3, ar4, ar5, ar6, ar7, ar8, ar9, ar10]) [] H := hT
  refine lv_aload_n hx hb dX11_mark_5 rfl (lv_at hl 0 rfl) ?_
  refine gX11_6 S hK hT ha kf_X11_206 dX11_mark_6 (v := z1) rfl ?_
  refine xi_zne (tgt := 15) hx hb (rfl : Int32.toInt z1 = z1.toInt) dX11_mark_9 (by decide) (fun c1 => ?_) (fun c1 => ?_)
  · refine lv_aload_n hx hb dX11_mark_15 rfl (lv_at hl 0 rfl) ?_
    refine gX11_7 S hK hT ha kf_X11_373 dX11_mark_16 (v := z2) rfl ?_
    refine lv_bipush (v := 8) hx hb dX11_mark_19 (by decide) ?_
    refine xi_cne (tgt := 27) hx hb (rfl : Int32.toInt z2 = z2.toInt) ((by decide) : Int32.toInt 8 = (8 : Int)) dX11_mark_21 (by decide) (fun c2 => ?_) (fun c2 => ?_)
    · refine lv_aload_n hx hb dX11_mark_27 rfl (lv_at hl 0 rfl) ?_
      refine gX11_1 S hK hT ha kf_X11_9 dX11_mark_28 (fun hk3 => ?_)
      refine lv_iconst (v := 0) hx hb dX11_mark_31 (by decide) ?_
      refine lv_aload_n hx hb dX11_mark_32 rfl (lv_at hl 0 rfl) ?_
      refine gX11_3 S hK hT ha kf_X11_18 dX11_mark_33 (fun hk4 => ?_)
      refine lv_sipush (v := 360) hx hb dX11_mark_36 (by decide) ?_
      refine lv_aload_n hx hb dX11_mark_39 rfl (lv_at hl 0 rfl) ?_
      refine gX11_7 S hK hT ha kf_X11_373 dX11_mark_40 (v := z2) rfl ?_
      refine xi_imul hx hb ((by decide) : Int32.toInt 360 = (360 : Int)) (rfl : Int32.toInt z2 = z2.toInt) dX11_mark_43 (fun x5 t6 => ?_)
      refine x_cv0 (x_runS (As := [.ref (F a 1), .int 0, .ref (F a 3), .int x5]) (rest := []) S (c_X11_copy_u l E K F tl 0 z1 z2 z3 z4 z5 z6 z7 z8 z9 z10 z11 z12 z13 z14 z15 z16 z17 z18 z19 z20 ar0 ar1 ar2 ar3 ar4 ar5 ar6 ar7 ar8 ar9 ar10 (F a 1) 0 (F a 3) x5 (XO.a hk3 (by decide)) (XOu.c hk4 (z_X11_mark_1 x5.toInt z2.toInt e0 c2 t6 (xr x5) (xr z2)))) ms_X11_copy km_X11_309 rfl rfl ⟨Nat.le_of_ble_eq_true rfl, Nat.le_of_ble_eq_true rfl⟩ hK (fun _ => XP.blind) (fun U hU hW => XP.at hK hz hS hT hU hW) rfl hl.1 (Nat.le_of_ble_eq_true rfl) dX11_mark_44 ⟨Nat.le_of_ble_eq_true rfl, Nat.le_of_ble_eq_true rfl⟩) hS ?_
      rintro _ H locs - hT hS
      refine lv_aload_n hx hb dX11_mark_47 rfl (lv_at hl 0 rfl) ?_
      refine lv_dup hx hb dX11_mark_48 rfl ?_
      refine gX11_7 S hK hT ha kf_X11_373 dX11_mark_49 (v := z2) rfl ?_
      refine lv_iconst (v := 1) hx hb dX11_mark_52 (by decide) ?_
      refine xi_iadd hx hb (rfl : Int32.toInt z2 = z2.toInt) ((by decide) : Int32.toInt 1 = (1 : Int)) dX11_mark_53 (fun x9 t10 => ?_)
      refine pX11_7 (kq := []) (v := x9) S hK hT hS ha kf_X11_373 (Nat.le_of_ble_eq_true rfl) dX11_mark_54 (fun _ h => by cases h) (fun H locs hT hS => ?_)
      have hT : TW E K F (tl, [0, z1, x9, z3, z4, z5, z6, z7, z8, z9, z10, z11, z12, z13, z14, z15, z16, z17, z18, z19, z20], [ar0, ar1, ar2, ar3, ar4, ar5, ar6, ar7, ar8, ar9, ar10]) [] H := hT
      refine lv_aload_n hx hb dX11_mark_57 rfl (lv_at hl 0 rfl) ?_
      refine gX11_7 S hK hT ha kf_X11_373 dX11_mark_58 (v := x9) rfl ?_
      refine lv_iconst (v := 1) hx hb dX11_mark_61 (by decide) ?_
      refine xi_isub hx hb (rfl : Int32.toInt x9 = x9.toInt) ((by decide) : Int32.toInt 1 = (1 : Int)) dX11_mark_62 (fun x11 t12 => ?_)
      exact x_ri hx hb hr hlk hQ (Nat.le_of_ble_eq_true rfl) (Nat.le_of_ble_eq_true rfl) hS dX11_mark_63 (0, x9) ⟨_, rfl, (z_X11_mark_2 x11.toInt x5.toInt x9.toInt z2.toInt e0 c2 t6 t10 t12 (xr x11) (xr x5) (xr x9) (xr z2))⟩ hT.nil
    · refine lv_bipush (v := (-4)) hx hb dX11_mark_24 (by decide) ?_
      exact x_ri hx hb hr hlk hQ (Nat.le_of_ble_eq_true rfl) (Nat.le_of_ble_eq_true rfl) hS dX11_mark_26 (0, z2) ⟨_, rfl, (z_X11_mark_3 z2.toInt e0 c2 (xr z2))⟩ hT.nil
  · refine lv_bipush (v := (-3)) hx hb dX11_mark_12 (by decide) ?_
    exact x_ri hx hb hr hlk hQ (Nat.le_of_ble_eq_true rfl) (Nat.le_of_ble_eq_true rfl) hS dX11_mark_14 (0, z2) ⟨_, rfl, (z_X11_mark_4 z2.toInt e0 (xr z2))⟩ hT.nil

theorem z_X11_isMark_1 (a0 : Int) (a1 : Int) (r0 : -2147483648 ≤ a0 ∧ a0 < 2147483648) (r1 : -2147483648 ≤ a1 ∧ a1 < 2147483648) : (0 : Int) = 0 ∨ ((0 : Int) = 1 ∧ 0 ≤ a0 ∧ a0 < a1) := by omega
theorem z_X11_isMark_2 (a0 : Int) (r0 : -2147483648 ≤ a0 ∧ a0 < 2147483648) : -2147483648 ≤ a0 ∧ a0 < 2147483648 := by omega
theorem z_X11_isMark_3 (a0 : Int) (a1 : Int) (a2 : Int) (h0 : (a1 = 1 ∧ (0 : Int) ≤ a0 ∧ a0 ≤ (a2 - (1 : Int))) ∨ (a1 = 0 ∧ (a0 < (0 : Int) ∨ (a2 - (1 : Int)) < a0))) (h1 : a1 = 0) (r0 : -2147483648 ≤ a0 ∧ a0 < 2147483648) (r1 : -2147483648 ≤ a1 ∧ a1 < 2147483648) (r2 : -2147483648 ≤ a2 ∧ a2 < 2147483648) : (0 : Int) = 0 ∨ ((0 : Int) = 1 ∧ 0 ≤ a0 ∧ a0 < a2) := by omega
theorem z_X11_isMark_4 (a0 : Int) (a1 : Int) (a2 : Int) (h0 : (a1 = 1 ∧ (0 : Int) ≤ a0 ∧ a0 ≤ (a2 - (1 : Int))) ∨ (a1 = 0 ∧ (a0 < (0 : Int) ∨ (a2 - (1 : Int)) < a0))) (h1 : ¬ (a1 = 0)) (r0 : -2147483648 ≤ a0 ∧ a0 < 2147483648) (r1 : -2147483648 ≤ a1 ∧ a1 < 2147483648) (r2 : -2147483648 ≤ a2 ∧ a2 < 2147483648) : (1 : Int) = 0 ∨ ((1 : Int) = 1 ∧ 0 ≤ a0 ∧ a0 < a2) := by omega
abbrev rm_X11_isMark : Room := { frames := 1, cells := 0, slots := 0, locals := 25 }
set_option maxHeartbeats 4000000 in
set_option maxRecDepth 100000 in
theorem c_X11_isMark (l : Launch) (E : XE) (K : Nat → Nat) (F : Nat → Nat → Nat) (tl z0 z1 z2 z3 z4 z5 z6 z7 z8 z9 z10 z11 z12 z13 z14 z15 z16 z17 z18 z19 z20 : Int32) (ar0 ar1 ar2 ar3 ar4 ar5 ar6 ar7 ar8 ar9 ar10 : Nat → Int32) (h0 : Heap) (a : Nat) (p0 : Int32) (ha : K a = 13) : Met l yX11_isMark (xw yX11_isMark cX11_isMark 2 (some .boolean)) rm_X11_isMark (va_Pc [.ref a, .int p0] (XPh E K F (tl, [z0, z1, z2, z3, z4, z5, z6, z7, z8, z9, z10, z11, z12, z13, z14, z15, z16, z17, z18, z19, z20], [ar0, ar1, ar2, ar3, ar4, ar5, ar6, ar7, ar8, ar9, ar10]) h0)) (XQ E (fun v (u : Unit) => ∃ r : Int32, v = .int r ∧ (r = 0 ∨ r = 1) ∧ (r.toInt = 0 ∨ (r.toInt = 1 ∧ 0 ≤ p0.toInt ∧ p0.toInt < z2.toInt))) (fun _ H => H = h0)) 0 0 (xA E) := by
  refine x_enter (by decide) (Nat.le_of_ble_eq_true rfl) ?_
  intro p e s m args below meth c Q S hr hlk hnm hQ hP ls hl
  obtain ⟨⟨hz, hK, hT⟩, hh⟩ := hP
  obtain ⟨hx, hb, -, -, -⟩ := id S
  have hS : va_S (xA E) s.heap s.heap [] := va_S.rf
  have hl : lv_has ls 2 [(0, .ref a), (1, .int p0)] := hl
  refine lv_aload_n hx hb dX11_isMark_0 rfl (lv_at hl 0 rfl) ?_
  refine gX11_6 S hK hT ha kf_X11_206 dX11_isMark_1 (v := z1) rfl ?_
  refine xi_zeq (tgt := 27) hx hb (rfl : Int32.toInt z1 = z1.toInt) dX11_isMark_4 (by decide) (fun c1 => ?_) (fun c1 => ?_)
  · refine lv_iconst (v := 0) hx hb dX11_isMark_27 (by decide) ?_
    exact x_rz hx hb hr (xnz (Or.inl rfl)) hlk hQ (Nat.le_of_ble_eq_true rfl) (Nat.le_of_ble_eq_true rfl) hS dX11_isMark_28 () ⟨_, rfl, (Or.inl rfl), (z_X11_isMark_1 p0.toInt z2.toInt (xr p0) (xr z2))⟩ hh
  · refine lv_iload_n hx hb dX11_isMark_7 rfl (lv_at hl 1 rfl) ?_
    refine lv_i2l (v := p0.toInt64) hx hb dX11_isMark_8 rfl ?_
    refine lv_lconst (v := (0 : Int64)) hx hb dX11_isMark_9 (by decide) ?_
    refine lv_aload_n hx hb dX11_isMark_10 rfl (lv_at hl 0 rfl) ?_
    refine gX11_7 S hK hT ha kf_X11_373 dX11_isMark_11 (v := z2) rfl ?_
    refine lv_i2l (v := z2.toInt64) hx hb dX11_isMark_14 rfl ?_
    refine lv_lconst (v := (1 : Int64)) hx hb dX11_isMark_15 (by decide) ?_
    refine lv_lsub hx hb dX11_isMark_16 (lv_topl (fun y2 hy3 => ?_))
    have hy3 : y2.toInt = z2.toInt - (1 : Int) := xl_sub (xl_i2l (rfl : Int32.toInt z2 = z2.toInt)) (by decide) (z_X11_isMark_2 z2.toInt (xr z2)) (by decide) hy3
    refine x_clp (x_runS (As := [.long p0.toInt64, .long (0 : Int64), .long y2]) (rest := []) S (c_X11_in l E K F tl z0 z1 z2 z3 z4 z5 z6 z7 z8 z9 z10 z11 z12 z13 z14 z15 z16 z17 z18 z19 z20 ar0 ar1 ar2 ar3 ar4 ar5 ar6 ar7 ar8 ar9 ar10 s.heap p0.toInt64 (0 : Int64) y2 p0.toInt (0 : Int) (z2.toInt - (1 : Int)) (xl_i2l (rfl : Int32.toInt p0 = p0.toInt)) (by decide) hy3) ms_X11_in km_X11_139 rfl rfl ⟨Nat.le_of_ble_eq_true rfl, Nat.le_of_ble_eq_true rfl⟩ hK (fun _ => XPh.blind) (fun U hU hW => XPh.at hK hz hS hT hU hW) rfl hl.1 (Nat.le_of_ble_eq_true rfl) dX11_isMark_17 ⟨Nat.le_of_ble_eq_true rfl, Nat.le_of_ble_eq_true rfl⟩) hS ?_
    rintro _ _ locs ⟨x4, rfl, b5, t6⟩ hS
    have t6 : (x4.toInt = 1 ∧ (0 : Int) ≤ p0.toInt ∧ p0.toInt ≤ (z2.toInt - (1 : Int))) ∨ (x4.toInt = 0 ∧ (p0.toInt < (0 : Int) ∨ (z2.toInt - (1 : Int)) < p0.toInt)) := t6
    refine xi_zeq (tgt := 27) hx hb (rfl : Int32.toInt x4 = x4.toInt) dX11_isMark_20 (by decide) (fun c7 => ?_) (fun c7 => ?_)
    · refine lv_iconst (v := 0) hx hb dX11_isMark_27 (by decide) ?_
      exact x_rz hx hb hr (xnz (Or.inl rfl)) hlk hQ (Nat.le_of_ble_eq_true rfl) (Nat.le_of_ble_eq_true rfl) hS dX11_isMark_28 () ⟨_, rfl, (Or.inl rfl), (z_X11_isMark_3 p0.toInt x4.toInt z2.toInt t6 c7 (xr p0) (xr x4) (xr z2))⟩ hh
    · refine lv_iconst (v := 1) hx hb dX11_isMark_23 (by decide) ?_
      refine lv_goto (tgt := 28) hx hb dX11_isMark_24 (by decide) ?_
      exact x_rz hx hb hr (xnz (Or.inr rfl)) hlk hQ (Nat.le_of_ble_eq_true rfl) (Nat.le_of_ble_eq_true rfl) hS dX11_isMark_28 () ⟨_, rfl, (Or.inr rfl), (z_X11_isMark_4 p0.toInt x4.toInt z2.toInt t6 c7 (xr p0) (xr x4) (xr z2))⟩ hh

theorem z_X11_back_1 (a0 : Int) (h0 : (0 : Int) ≤ a0) (r0 : -2147483648 ≤ a0 ∧ a0 < 2147483648) : ¬ (2147483648 - a0 < ((0 : Nat) : Int)) := by omega
theorem z_X11_back_2 (a0 : Int) (a1 : Int) (a2 : Int) (a3 : Int) (h0 : 0 ≤ a3 ∧ a3 ≤ 8) (h1 : a2 = 0 ∨ (a2 = 1 ∧ 0 ≤ a0 ∧ a0 < a3)) (h2 : a2 = 0 ∨ a2 = 1) (h3 : a2 ≠ 0) (h4 : a1 = (360 : Int) * a0 ∨ (360 : Int) * a0 < -2147483648 ∨ 2147483648 ≤ (360 : Int) * a0) (r0 : -2147483648 ≤ a0 ∧ a0 < 2147483648) (r1 : -2147483648 ≤ a1 ∧ a1 < 2147483648) (r2 : -2147483648 ≤ a2 ∧ a2 < 2147483648) (r3 : -2147483648 ≤ a3 ∧ a3 < 2147483648) : 0 ≤ a1 ∧ a1 ≤ 2520 := by omega
theorem z_X11_back_3 (a0 : Int) (a1 : Int) (a2 : Int) (a3 : Int) (a4 : Int) (a5 : Int) (h0 : 0 ≤ a5 ∧ a5 ≤ 8) (h1 : a1 = 0) (h2 : a4 = 0 ∨ (a4 = 1 ∧ 0 ≤ a0 ∧ a0 < a5)) (h3 : a4 = 0 ∨ a4 = 1) (h4 : a4 ≠ 0) (h5 : a2 = (360 : Int) * a0 ∨ (360 : Int) * a0 < -2147483648 ∨ 2147483648 ≤ (360 : Int) * a0) (h6 : a3 = a0 + (1 : Int) ∨ a0 + (1 : Int) < -2147483648 ∨ 2147483648 ≤ a0 + (1 : Int)) (r0 : -2147483648 ≤ a0 ∧ a0 < 2147483648) (r1 : -2147483648 ≤ a1 ∧ a1 < 2147483648) (r2 : -2147483648 ≤ a2 ∧ a2 < 2147483648) (r3 : -2147483648 ≤ a3 ∧ a3 < 2147483648) (r4 : -2147483648 ≤ a4 ∧ a4 < 2147483648) (r5 : -2147483648 ≤ a5 ∧ a5 < 2147483648) : 0 ≤ a1 ∧ a1 ≤ 24 ∧ 0 ≤ a3 ∧ a3 ≤ 8 := by omega
theorem z_X11_back_4 (a0 : Int) (a1 : Int) (a2 : Nat) (a3 : Nat) (h0 : 0 ≤ a0 ∧ a0 ≤ 12 ∧ a0 ≤ ((a3 : Nat) : Int)) (h1 : (0 : Int) ≤ a1) (h2 : 2147483648 - a1 < ((a2 + 1 : Nat) : Int)) (h3 : ¬ (a0 ≤ a1)) (r0 : -2147483648 ≤ a0 ∧ a0 < 2147483648) (r1 : -2147483648 ≤ a1 ∧ a1 < 2147483648) : 0 ≤ a1 ∧ a1 < ((12 : Nat) : Int) := by omega
theorem z_X11_back_5 (a0 : Int) (a1 : Int) (a2 : Nat) (a3 : Nat) (h0 : 0 ≤ a0 ∧ a0 ≤ 12 ∧ a0 ≤ ((a3 : Nat) : Int)) (h1 : (0 : Int) ≤ a1) (h2 : 2147483648 - a1 < ((a2 + 1 : Nat) : Int)) (h3 : ¬ (a0 ≤ a1)) (r0 : -2147483648 ≤ a0 ∧ a0 < 2147483648) (r1 : -2147483648 ≤ a1 ∧ a1 < 2147483648) : 0 ≤ a1 ∧ a1 < ((a3 : Nat) : Int) := by omega
theorem z_X11_back_6 (a0 : Int) (a1 : Int) (a2 : Int) (h0 : a0 = a2) (h1 : 0 ≤ a0 ∧ a0 ≤ 11 ∧ 0 ≤ a1) (r0 : -2147483648 ≤ a0 ∧ a0 < 2147483648) : 0 ≤ a0 ∧ a0 ≤ 11 := by omega
theorem z_X11_back_7 (a0 : Int) (a1 : Int) (a2 : Int) (a3 : Int) (a4 : Int) (a5 : Int) (h0 : a0 = a5) (h1 : 0 ≤ a0 ∧ a0 ≤ 11 ∧ 0 ≤ a1) (h2 : (-1 ≤ a1 ∧ a1 ≤ 5) ∧ (0 ≤ a2 ∧ a2 ≤ 2) ∧ (0 ≤ a3 ∧ a3 ≤ 2) ∧ (-1 ≤ a4 ∧ a4 ≤ 2) ∧ (a1 = 1 ∨ a1 = 3 ∨ a1 = 4 → 0 ≤ a4)) (r0 : -2147483648 ≤ a0 ∧ a0 < 2147483648) : 0 ≤ a0 ∧ a0 ≤ 11 := by omega
theorem z_X11_back_8 (a0 : Int) (a1 : Int) (a2 : Int) (a3 : Int) (a4 : Int) (a5 : Int) (a6 : Int) (a7 : Int) (h0 : -99 ≤ a2 ∧ a2 ≤ 100 ∧ (a3 = 2 ∨ a3 = 4 ∨ a3 = 5 → 0 ≤ a2 ∧ a2 ≤ 30)) (h1 : a0 = a7) (h2 : 0 ≤ a0 ∧ a0 ≤ 11 ∧ 0 ≤ a3) (h3 : (-1 ≤ a3 ∧ a3 ≤ 5) ∧ (0 ≤ a4 ∧ a4 ≤ 2) ∧ (0 ≤ a5 ∧ a5 ≤ 2) ∧ (-1 ≤ a6 ∧ a6 ≤ 2) ∧ (a3 = 1 ∨ a3 = 3 ∨ a3 = 4 → 0 ≤ a6)) (h4 : ((a3 = 2 ∨ a3 = 4 ∨ a3 = 5) ∧ a1 = 0) ∨ (a3 ≠ 2 ∧ a3 ≠ 4 ∧ a3 ≠ 5 ∧ a1 = -99)) (r0 : -2147483648 ≤ a0 ∧ a0 < 2147483648) (r1 : -2147483648 ≤ a1 ∧ a1 < 2147483648) (r2 : -2147483648 ≤ a2 ∧ a2 < 2147483648) : ¬ (2147483648 - a2 < ((0 : Nat) : Int)) := by omega
theorem z_X11_back_9 (a0 : Int) (a1 : Int) (a2 : Int) (a3 : Nat) (a4 : Int) (a5 : Int) (a6 : Int) (a7 : Int) (a8 : Int) (h0 : a0 = a8) (h1 : 0 ≤ a0 ∧ a0 ≤ 11 ∧ 0 ≤ a4) (h2 : (-1 ≤ a4 ∧ a4 ≤ 5) ∧ (0 ≤ a5 ∧ a5 ≤ 2) ∧ (0 ≤ a6 ∧ a6 ≤ 2) ∧ (-1 ≤ a7 ∧ a7 ≤ 2) ∧ (a4 = 1 ∨ a4 = 3 ∨ a4 = 4 → 0 ≤ a7)) (h3 : ((a4 = 2 ∨ a4 = 4 ∨ a4 = 5) ∧ a1 = 0) ∨ (a4 ≠ 2 ∧ a4 ≠ 4 ∧ a4 ≠ 5 ∧ a1 = -99)) (h4 : -99 ≤ a2 ∧ a2 ≤ 100 ∧ (a4 = 2 ∨ a4 = 4 ∨ a4 = 5 → 0 ≤ a2 ∧ a2 ≤ 30)) (h5 : 2147483648 - a2 < ((a3 + 1 : Nat) : Int)) (r0 : -2147483648 ≤ a0 ∧ a0 < 2147483648) (r1 : -2147483648 ≤ a1 ∧ a1 < 2147483648) (r2 : -2147483648 ≤ a2 ∧ a2 < 2147483648) : 0 ≤ a0 ∧ a0 ≤ 11 := by omega
theorem z_X11_back_10 (a0 : Int) (a1 : Int) (a2 : Int) (a3 : Nat) (a4 : Nat) (h0 : 0 ≤ a0 ∧ a0 ≤ 12 ∧ a0 ≤ ((a4 : Nat) : Int)) (h1 : (0 : Int) ≤ a1) (h2 : 2147483648 - a1 < ((a3 + 1 : Nat) : Int)) (h3 : ¬ (a0 ≤ a1)) (h4 : a2 = a1 + 1 ∨ a1 + 1 < -2147483648 ∨ 2147483648 ≤ a1 + 1) (r0 : -2147483648 ≤ a0 ∧ a0 < 2147483648) (r1 : -2147483648 ≤ a1 ∧ a1 < 2147483648) (r2 : -2147483648 ≤ a2 ∧ a2 < 2147483648) : (0 : Int) ≤ a2 := by omega
theorem z_X11_back_11 (a0 : Int) (a1 : Int) (a2 : Int) (a3 : Nat) (a4 : Nat) (h0 : 0 ≤ a0 ∧ a0 ≤ 12 ∧ a0 ≤ ((a4 : Nat) : Int)) (h1 : (0 : Int) ≤ a1) (h2 : 2147483648 - a1 < ((a3 + 1 : Nat) : Int)) (h3 : ¬ (a0 ≤ a1)) (h4 : a2 = a1 + 1 ∨ a1 + 1 < -2147483648 ∨ 2147483648 ≤ a1 + 1) (r0 : -2147483648 ≤ a0 ∧ a0 < 2147483648) (r1 : -2147483648 ≤ a1 ∧ a1 < 2147483648) (r2 : -2147483648 ≤ a2 ∧ a2 < 2147483648) : 2147483648 - a2 < ((a3 : Nat) : Int) := by omega
theorem z_X11_back_12 (a0 : Int) (a1 : Int) (a2 : Int) (a3 : Int) (a4 : Nat) (a5 : Int) (a6 : Int) (a7 : Int) (a8 : Int) (a9 : Int) (h0 : a0 = a9) (h1 : 0 ≤ a0 ∧ a0 ≤ 11 ∧ 0 ≤ a5) (h2 : (-1 ≤ a5 ∧ a5 ≤ 5) ∧ (0 ≤ a6 ∧ a6 ≤ 2) ∧ (0 ≤ a7 ∧ a7 ≤ 2) ∧ (-1 ≤ a8 ∧ a8 ≤ 2) ∧ (a5 = 1 ∨ a5 = 3 ∨ a5 = 4 → 0 ≤ a8)) (h3 : ((a5 = 2 ∨ a5 = 4 ∨ a5 = 5) ∧ a1 = 0) ∨ (a5 ≠ 2 ∧ a5 ≠ 4 ∧ a5 ≠ 5 ∧ a1 = -99)) (h4 : -99 ≤ a2 ∧ a2 ≤ 100 ∧ (a5 = 2 ∨ a5 = 4 ∨ a5 = 5 → 0 ≤ a2 ∧ a2 ≤ 30)) (h5 : 2147483648 - a2 < ((a4 + 1 : Nat) : Int)) (h6 : ((a5 = 2 ∨ a5 = 4 ∨ a5 = 5) ∧ a3 = 29) ∨ (a5 ≠ 2 ∧ a5 ≠ 4 ∧ a5 ≠ 5 ∧ a3 = 99)) (h7 : ¬ (a3 < a2)) (r0 : -2147483648 ≤ a0 ∧ a0 < 2147483648) (r1 : -2147483648 ≤ a1 ∧ a1 < 2147483648) (r2 : -2147483648 ≤ a2 ∧ a2 < 2147483648) (r3 : -2147483648 ≤ a3 ∧ a3 < 2147483648) : 0 ≤ a0 ∧ a0 ≤ 11 := by omega
theorem z_X11_back_13 (a0 : Int) (a1 : Int) (a2 : Int) (a3 : Int) (h0 : 0 ≤ a3 ∧ a3 ≤ 8) (h1 : a2 = 0 ∨ (a2 = 1 ∧ 0 ≤ a0 ∧ a0 < a3)) (h2 : a2 = 0 ∨ a2 = 1) (h3 : a2 ≠ 0) (h4 : a1 = (360 : Int) * a0 ∨ (360 : Int) * a0 < -2147483648 ∨ 2147483648 ≤ (360 : Int) * a0) (r0 : -2147483648 ≤ a0 ∧ a0 < 2147483648) (r1 : -2147483648 ≤ a1 ∧ a1 < 2147483648) (r2 : -2147483648 ≤ a2 ∧ a2 < 2147483648) (r3 : -2147483648 ≤ a3 ∧ a3 < 2147483648) : 0 ≤ a1 ∧ a1 ≤ 2520 := by omega
theorem z_X11_back_14 (a0 : Int) (a1 : Int) (a2 : Int) (a3 : Int) (a4 : Nat) (a5 : Int) (a6 : Int) (a7 : Int) (a8 : Int) (a9 : Int) (h0 : a0 = a9) (h1 : 0 ≤ a0 ∧ a0 ≤ 11 ∧ 0 ≤ a5) (h2 : (-1 ≤ a5 ∧ a5 ≤ 5) ∧ (0 ≤ a6 ∧ a6 ≤ 2) ∧ (0 ≤ a7 ∧ a7 ≤ 2) ∧ (-1 ≤ a8 ∧ a8 ≤ 2) ∧ (a5 = 1 ∨ a5 = 3 ∨ a5 = 4 → 0 ≤ a8)) (h3 : ((a5 = 2 ∨ a5 = 4 ∨ a5 = 5) ∧ a1 = 0) ∨ (a5 ≠ 2 ∧ a5 ≠ 4 ∧ a5 ≠ 5 ∧ a1 = -99)) (h4 : -99 ≤ a2 ∧ a2 ≤ 100 ∧ (a5 = 2 ∨ a5 = 4 ∨ a5 = 5 → 0 ≤ a2 ∧ a2 ≤ 30)) (h5 : 2147483648 - a2 < ((a4 + 1 : Nat) : Int)) (h6 : ((a5 = 2 ∨ a5 = 4 ∨ a5 = 5) ∧ a3 = 29) ∨ (a5 ≠ 2 ∧ a5 ≠ 4 ∧ a5 ≠ 5 ∧ a3 = 99)) (h7 : ¬ (a3 < a2)) (r0 : -2147483648 ≤ a0 ∧ a0 < 2147483648) (r1 : -2147483648 ≤ a1 ∧ a1 < 2147483648) (r2 : -2147483648 ≤ a2 ∧ a2 < 2147483648) (r3 : -2147483648 ≤ a3 ∧ a3 < 2147483648) : 0 ≤ a0 ∧ a0 ≤ 11 := by omega
theorem z_X11_back_15 (a0 : Int) (a1 : Int) (a2 : Int) (a3 : Int) (a4 : Nat) (a5 : Int) (a6 : Int) (a7 : Int) (a8 : Int) (a9 : Int) (h0 : a0 = a9) (h1 : 0 ≤ a0 ∧ a0 ≤ 11 ∧ 0 ≤ a5) (h2 : (-1 ≤ a5 ∧ a5 ≤ 5) ∧ (0 ≤ a6 ∧ a6 ≤ 2) ∧ (0 ≤ a7 ∧ a7 ≤ 2) ∧ (-1 ≤ a8 ∧ a8 ≤ 2) ∧ (a5 = 1 ∨ a5 = 3 ∨ a5 = 4 → 0 ≤ a8)) (h3 : ((a5 = 2 ∨ a5 = 4 ∨ a5 = 5) ∧ a1 = 0) ∨ (a5 ≠ 2 ∧ a5 ≠ 4 ∧ a5 ≠ 5 ∧ a1 = -99)) (h4 : -99 ≤ a2 ∧ a2 ≤ 100 ∧ (a5 = 2 ∨ a5 = 4 ∨ a5 = 5 → 0 ≤ a2 ∧ a2 ≤ 30)) (h5 : 2147483648 - a2 < ((a4 + 1 : Nat) : Int)) (h6 : ((a5 = 2 ∨ a5 = 4 ∨ a5 = 5) ∧ a3 = 29) ∨ (a5 ≠ 2 ∧ a5 ≠ 4 ∧ a5 ≠ 5 ∧ a3 = 99)) (h7 : ¬ (a3 < a2)) (r0 : -2147483648 ≤ a0 ∧ a0 < 2147483648) (r1 : -2147483648 ≤ a1 ∧ a1 < 2147483648) (r2 : -2147483648 ≤ a2 ∧ a2 < 2147483648) (r3 : -2147483648 ≤ a3 ∧ a3 < 2147483648) : 0 ≤ a5 := by omega
theorem z_X11_back_16 (a0 : Int) (a1 : Int) (a2 : Int) (a3 : Int) (a4 : Nat) (a5 : Int) (a6 : Int) (a7 : Int) (a8 : Int) (a9 : Int) (h0 : a0 = a9) (h1 : 0 ≤ a0 ∧ a0 ≤ 11 ∧ 0 ≤ a5) (h2 : (-1 ≤ a5 ∧ a5 ≤ 5) ∧ (0 ≤ a6 ∧ a6 ≤ 2) ∧ (0 ≤ a7 ∧ a7 ≤ 2) ∧ (-1 ≤ a8 ∧ a8 ≤ 2) ∧ (a5 = 1 ∨ a5 = 3 ∨ a5 = 4 → 0 ≤ a8)) (h3 : ((a5 = 2 ∨ a5 = 4 ∨ a5 = 5) ∧ a1 = 0) ∨ (a5 ≠ 2 ∧ a5 ≠ 4 ∧ a5 ≠ 5 ∧ a1 = -99)) (h4 : -99 ≤ a2 ∧ a2 ≤ 100 ∧ (a5 = 2 ∨ a5 = 4 ∨ a5 = 5 → 0 ≤ a2 ∧ a2 ≤ 30)) (h5 : 2147483648 - a2 < ((a4 + 1 : Nat) : Int)) (h6 : ((a5 = 2 ∨ a5 = 4 ∨ a5 = 5) ∧ a3 = 29) ∨ (a5 ≠ 2 ∧ a5 ≠ 4 ∧ a5 ≠ 5 ∧ a3 = 99)) (h7 : ¬ (a3 < a2)) (r0 : -2147483648 ≤ a0 ∧ a0 < 2147483648) (r1 : -2147483648 ≤ a1 ∧ a1 < 2147483648) (r2 : -2147483648 ≤ a2 ∧ a2 < 2147483648) (r3 : -2147483648 ≤ a3 ∧ a3 < 2147483648) : a5 = 2 ∨ a5 = 5 → 0 ≤ a2 ∧ a2 ≤ 29 := by omega
theorem z_X11_back_17 (a0 : Int) (a1 : Int) (a2 : Int) (a3 : Int) (a4 : Int) (a5 : Nat) (a6 : Int) (a7 : Int) (a8 : Int) (a9 : Int) (a10 : Int) (h0 : a0 = a10) (h1 : 0 ≤ a0 ∧ a0 ≤ 11 ∧ 0 ≤ a6) (h2 : (-1 ≤ a6 ∧ a6 ≤ 5) ∧ (0 ≤ a7 ∧ a7 ≤ 2) ∧ (0 ≤ a8 ∧ a8 ≤ 2) ∧ (-1 ≤ a9 ∧ a9 ≤ 2) ∧ (a6 = 1 ∨ a6 = 3 ∨ a6 = 4 → 0 ≤ a9)) (h3 : ((a6 = 2 ∨ a6 = 4 ∨ a6 = 5) ∧ a1 = 0) ∨ (a6 ≠ 2 ∧ a6 ≠ 4 ∧ a6 ≠ 5 ∧ a1 = -99)) (h4 : -99 ≤ a2 ∧ a2 ≤ 100 ∧ (a6 = 2 ∨ a6 = 4 ∨ a6 = 5 → 0 ≤ a2 ∧ a2 ≤ 30)) (h5 : 2147483648 - a2 < ((a5 + 1 : Nat) : Int)) (h6 : ((a6 = 2 ∨ a6 = 4 ∨ a6 = 5) ∧ a3 = 29) ∨ (a6 ≠ 2 ∧ a6 ≠ 4 ∧ a6 ≠ 5 ∧ a3 = 99)) (h7 : ¬ (a3 < a2)) (h8 : a4 = a2 + 1 ∨ a2 + 1 < -2147483648 ∨ 2147483648 ≤ a2 + 1) (r0 : -2147483648 ≤ a0 ∧ a0 < 2147483648) (r1 : -2147483648 ≤ a1 ∧ a1 < 2147483648) (r2 : -2147483648 ≤ a2 ∧ a2 < 2147483648) (r3 : -2147483648 ≤ a3 ∧ a3 < 2147483648) (r4 : -2147483648 ≤ a4 ∧ a4 < 2147483648) : -99 ≤ a4 ∧ a4 ≤ 100 ∧ (a6 = 2 ∨ a6 = 4 ∨ a6 = 5 → 0 ≤ a4 ∧ a4 ≤ 30) := by omega
theorem z_X11_back_18 (a0 : Int) (a1 : Int) (a2 : Int) (a3 : Int) (a4 : Int) (a5 : Nat) (a6 : Int) (a7 : Int) (a8 : Int) (a9 : Int) (a10 : Int) (h0 : a0 = a10) (h1 : 0 ≤ a0 ∧ a0 ≤ 11 ∧ 0 ≤ a6) (h2 : (-1 ≤ a6 ∧ a6 ≤ 5) ∧ (0 ≤ a7 ∧ a7 ≤ 2) ∧ (0 ≤ a8 ∧ a8 ≤ 2) ∧ (-1 ≤ a9 ∧ a9 ≤ 2) ∧ (a6 = 1 ∨ a6 = 3 ∨ a6 = 4 → 0 ≤ a9)) (h3 : ((a6 = 2 ∨ a6 = 4 ∨ a6 = 5) ∧ a1 = 0) ∨ (a6 ≠ 2 ∧ a6 ≠ 4 ∧ a6 ≠ 5 ∧ a1 = -99)) (h4 : -99 ≤ a2 ∧ a2 ≤ 100 ∧ (a6 = 2 ∨ a6 = 4 ∨ a6 = 5 → 0 ≤ a2 ∧ a2 ≤ 30)) (h5 : 2147483648 - a2 < ((a5 + 1 : Nat) : Int)) (h6 : ((a6 = 2 ∨ a6 = 4 ∨ a6 = 5) ∧ a3 = 29) ∨ (a6 ≠ 2 ∧ a6 ≠ 4 ∧ a6 ≠ 5 ∧ a3 = 99)) (h7 : ¬ (a3 < a2)) (h8 : a4 = a2 + 1 ∨ a2 + 1 < -2147483648 ∨ 2147483648 ≤ a2 + 1) (r0 : -2147483648 ≤ a0 ∧ a0 < 2147483648) (r1 : -2147483648 ≤ a1 ∧ a1 < 2147483648) (r2 : -2147483648 ≤ a2 ∧ a2 < 2147483648) (r3 : -2147483648 ≤ a3 ∧ a3 < 2147483648) (r4 : -2147483648 ≤ a4 ∧ a4 < 2147483648) : 2147483648 - a4 < ((a5 : Nat) : Int) := by omega
theorem z_X11_back_19 (a0 : Int) (a1 : Int) (a2 : Int) (a3 : Int) (a4 : Nat) (a5 : Int) (a6 : Int) (a7 : Int) (a8 : Int) (a9 : Int) (h0 : a0 = a9) (h1 : 0 ≤ a0 ∧ a0 ≤ 11 ∧ 0 ≤ a5) (h2 : (-1 ≤ a5 ∧ a5 ≤ 5) ∧ (0 ≤ a6 ∧ a6 ≤ 2) ∧ (0 ≤ a7 ∧ a7 ≤ 2) ∧ (-1 ≤ a8 ∧ a8 ≤ 2) ∧ (a5 = 1 ∨ a5 = 3 ∨ a5 = 4 → 0 ≤ a8)) (h3 : ((a5 = 2 ∨ a5 = 4 ∨ a5 = 5) ∧ a1 = 0) ∨ (a5 ≠ 2 ∧ a5 ≠ 4 ∧ a5 ≠ 5 ∧ a1 = -99)) (h4 : -99 ≤ a2 ∧ a2 ≤ 100 ∧ (a5 = 2 ∨ a5 = 4 ∨ a5 = 5 → 0 ≤ a2 ∧ a2 ≤ 30)) (h5 : 2147483648 - a2 < ((a4 + 1 : Nat) : Int)) (h6 : ((a5 = 2 ∨ a5 = 4 ∨ a5 = 5) ∧ a3 = 29) ∨ (a5 ≠ 2 ∧ a5 ≠ 4 ∧ a5 ≠ 5 ∧ a3 = 99)) (h7 : ¬ (a3 < a2)) (r0 : -2147483648 ≤ a0 ∧ a0 < 2147483648) (r1 : -2147483648 ≤ a1 ∧ a1 < 2147483648) (r2 : -2147483648 ≤ a2 ∧ a2 < 2147483648) (r3 : -2147483648 ≤ a3 ∧ a3 < 2147483648) : 0 ≤ a0 ∧ a0 ≤ 11 := by omega
theorem z_X11_back_20 (a0 : Int) (a1 : Int) (a2 : Int) (a3 : Int) (a4 : Int) (h0 : 0 ≤ a4 ∧ a4 ≤ 8) (h1 : a3 = 0 ∨ (a3 = 1 ∧ 0 ≤ a0 ∧ a0 < a4)) (h2 : a3 = 0 ∨ a3 = 1) (h3 : a3 ≠ 0) (h4 : a2 = (360 : Int) * a0 ∨ (360 : Int) * a0 < -2147483648 ∨ 2147483648 ≤ (360 : Int) * a0) (h5 : 0 ≤ a1 ∧ a1 ≤ 24) (r0 : -2147483648 ≤ a0 ∧ a0 < 2147483648) (r1 : -2147483648 ≤ a1 ∧ a1 < 2147483648) (r2 : -2147483648 ≤ a2 ∧ a2 < 2147483648) (r3 : -2147483648 ≤ a3 ∧ a3 < 2147483648) (r4 : -2147483648 ≤ a4 ∧ a4 < 2147483648) : 0 ≤ a1 ∧ a1 ≤ 24 ∧ 0 ≤ a4 ∧ a4 ≤ 8 := by omega
theorem z_X11_back_21 (a0 : Int) (a1 : Int) (a2 : Int) (a3 : Int) (a4 : Int) (a5 : Int) (a6 : Int) (h0 : a0 = a6) (h1 : 0 ≤ a0 ∧ a0 ≤ 11 ∧ 0 ≤ a2) (h2 : (-1 ≤ a2 ∧ a2 ≤ 5) ∧ (0 ≤ a3 ∧ a3 ≤ 2) ∧ (0 ≤ a4 ∧ a4 ≤ 2) ∧ (-1 ≤ a5 ∧ a5 ≤ 2) ∧ (a2 = 1 ∨ a2 = 3 ∨ a2 = 4 → 0 ≤ a5)) (h3 : ((a2 = 2 ∨ a2 = 4 ∨ a2 = 5) ∧ a1 = 0) ∨ (a2 ≠ 2 ∧ a2 ≠ 4 ∧ a2 ≠ 5 ∧ a1 = -99)) (r0 : -2147483648 ≤ a0 ∧ a0 < 2147483648) (r1 : -2147483648 ≤ a1 ∧ a1 < 2147483648) : -99 ≤ a1 ∧ a1 ≤ 100 ∧ (a2 = 2 ∨ a2 = 4 ∨ a2 = 5 → 0 ≤ a1 ∧ a1 ≤ 30) := by omega
theorem z_X11_back_22 (a0 : Int) (a1 : Int) (a2 : Int) (a3 : Int) (a4 : Int) (a5 : Int) (a6 : Int) (h0 : a0 = a6) (h1 : 0 ≤ a0 ∧ a0 ≤ 11 ∧ 0 ≤ a2) (h2 : (-1 ≤ a2 ∧ a2 ≤ 5) ∧ (0 ≤ a3 ∧ a3 ≤ 2) ∧ (0 ≤ a4 ∧ a4 ≤ 2) ∧ (-1 ≤ a5 ∧ a5 ≤ 2) ∧ (a2 = 1 ∨ a2 = 3 ∨ a2 = 4 → 0 ≤ a5)) (h3 : ((a2 = 2 ∨ a2 = 4 ∨ a2 = 5) ∧ a1 = 0) ∨ (a2 ≠ 2 ∧ a2 ≠ 4 ∧ a2 ≠ 5 ∧ a1 = -99)) (r0 : -2147483648 ≤ a0 ∧ a0 < 2147483648) (r1 : -2147483648 ≤ a1 ∧ a1 < 2147483648) : 2147483648 - a1 < ((4294967297 : Nat) : Int) := by omega
theorem z_X11_back_23 (a0 : Int) (a1 : Int) (a2 : Int) (a3 : Int) (h0 : 0 ≤ a3 ∧ a3 ≤ 8) (h1 : a1 = 0) (h2 : a2 = 0 ∨ (a2 = 1 ∧ 0 ≤ a0 ∧ a0 < a3)) (h3 : a2 = 0 ∨ a2 = 1) (h4 : ¬ (a2 ≠ 0)) (r0 : -2147483648 ≤ a0 ∧ a0 < 2147483648) (r1 : -2147483648 ≤ a1 ∧ a1 < 2147483648) (r2 : -2147483648 ≤ a2 ∧ a2 < 2147483648) (r3 : -2147483648 ≤ a3 ∧ a3 < 2147483648) : 0 ≤ a1 ∧ a1 ≤ 24 ∧ 0 ≤ a3 ∧ a3 ≤ 8 := by omega
theorem z_X11_back_24 (a0 : Int) (a1 : Int) (h0 : 0 ≤ a1 ∧ a1 ≤ 8) (h1 : a0 = 0) (r0 : -2147483648 ≤ a0 ∧ a0 < 2147483648) (r1 : -2147483648 ≤ a1 ∧ a1 < 2147483648) : 0 ≤ a0 ∧ a0 ≤ 24 ∧ 0 ≤ a1 ∧ a1 ≤ 8 := by omega
abbrev rm_X11_back : Room := { frames := 6, cells := 0, slots := 0, locals := 142 }
set_option maxHeartbeats 4000000 in
set_option maxRecDepth 100000 in
theorem c_X11_back (l : Launch) (E : XE) (K : Nat → Nat) (F : Nat → Nat → Nat) (tl z0 z1 z2 z3 z4 z5 z6 z7 z8 z9 z10 z11 z12 z13 z14 z15 z16 z17 z18 z19 z20 : Int32) (ar0 ar1 ar2 ar3 ar4 ar5 ar6 ar7 ar8 ar9 ar10 : Nat → Int32) (a : Nat) (p0 : Int32) (ha : K a = 13) (hR : RV ar1) (e0 : 0 ≤ z2.toInt ∧ z2.toInt ≤ 8) (e1 : 0 ≤ z7.toInt ∧ z7.toInt ≤ 24) : Met l yX11_back (xw yX11_back cX11_back 5 (some .int)) rm_X11_back (va_Pc [.ref a, .int p0] (XP E K F (tl, [z0, z1, z2, z3, z4, z5, z6, z7, z8, z9, z10, z11, z12, z13, z14, z15, z16, z17, z18, z19, z20], [ar0, ar1, ar2, ar3, ar4, ar5, ar6, ar7, ar8, ar9, ar10]))) (XQ E (fun v (u : Int32 × Int32 × Int32 × Int32 × Int32 × Int32 × Int32 × (Nat → Int32) × (Nat → Int32) × (Nat → Int32) × (Nat → Int32)) => ∃ r : Int32, v = .int r ∧ (0 ≤ u.2.2.2.2.2.2.1.toInt ∧ u.2.2.2.2.2.2.1.toInt ≤ 24 ∧ 0 ≤ u.2.1.toInt ∧ u.2.1.toInt ≤ 8)) (fun u H => TW E K F (tl, [u.1, z1, u.2.1, u.2.2.1, u.2.2.2.1, u.2.2.2.2.1, u.2.2.2.2.2.1, u.2.2.2.2.2.2.1, z8, z9, z10, z11, z12, z13, z14, z15, z16, z17, z18, z19, z20], [u.2.2.2.2.2.2.2.1, ar1, u.2.2.2.2.2.2.2.2.1, u.2.2.2.2.2.2.2.2.2.1, u.2.2.2.2.2.2.2.2.2.2, ar5, ar6, ar7, ar8, ar9, ar10]) [] H)) 0 0 (xA E) := by
  refine x_enter (by decide) (Nat.le_of_ble_eq_true rfl) ?_
  intro p e s m args below meth c Q S hr hlk hnm hQ hP ls hl
  obtain ⟨hz, hK, hT⟩ := hP
  obtain ⟨hx, hb, -, -, -⟩ := id S
  obtain ⟨H, hT, hS, hgo⟩ : ∃ H : Heap, TW E K F (tl, [z0, z1, z2, z3, z4, z5, z6, z7, z8, z9, z10, z11, z12, z13, z14, z15, z16, z17, z18, z19, z20], [ar0, ar1, ar2, ar3, ar4, ar5, ar6, ar7, ar8, ar9, ar10]) [] H ∧ va_S (xA E) s.heap H [] ∧ H = s.heap := ⟨_, hT, va_S.rf, rfl⟩
  rw [← hgo]
  have hl : lv_has ls 5 [(0, .ref a), (1, .int p0)] := hl
  refine lv_aload_n hx hb dX11_back_0 rfl (lv_at hl 0 rfl) ?_
  refine lv_iconst (v := 0) hx hb dX11_back_1 (by decide) ?_
  refine pX11_0 (kq := []) (v := 0) S hK hT hS ha kf_X11_134 (Nat.le_of_ble_eq_true rfl) dX11_back_2 (fun _ h => by cases h) (fun H locs hT hS => ?_)
  have hT : TW E K F (tl, [0, z1, z2, z3, z4, z5, z6, z7, z8, z9, z10, z11, z12, z13, z14, z15, z16, z17, z18, z19, z20], [ar0, ar1, ar2, ar3, ar4, ar5, ar6, ar7, ar8, ar9, ar10]) [] H := hT
  refine lv_aload_n hx hb dX11_back_5 rfl (lv_at hl 0 rfl) ?_
  refine x_cv0 (x_runV (b := a) (As := []) (rest := []) S (c_X11_nothing l E K F tl 0 z1 z2 z3 z4 z5 z6 z7 z8 z9 z10 z11 z12 z13 z14 z15 z16 z17 z18 z19 z20 ar0 ar1 ar2 ar3 ar4 ar5 ar6 ar7 ar8 ar9 ar10 a ha) mv_X11_nothing km_X11_231 rfl rfl ⟨Nat.le_of_ble_eq_true rfl, Nat.le_of_ble_eq_true rfl⟩ (rc_13 hK hT ha) hK (fun _ => XP.blind) (fun U hU hW => XP.at hK hz hS hT hU hW) rfl hl.1 (Nat.le_of_ble_eq_true rfl) dX11_back_6 ⟨Nat.le_of_ble_eq_true rfl, Nat.le_of_ble_eq_true rfl⟩) hS ?_
  rintro ⟨u1, u2, u3⟩ H locs t4 hT hS
  have hT : TW E K F (tl, [0, z1, z2, z3, z4, u1, u2, u3, z8, z9, z10, z11, z12, z13, z14, z15, z16, z17, z18, z19, z20], [ar0, ar1, ar2, ar3, ar4, ar5, ar6, ar7, ar8, ar9, ar10]) [] H := hT
  have t4 : u3.toInt = 0 := t4
  refine lv_aload_n hx hb dX11_back_9 rfl (lv_at hl 0 rfl) ?_
  refine gX11_6 S hK hT ha kf_X11_206 dX11_back_10 (v := z1) rfl ?_
  refine xi_zne (tgt := 19) hx hb (rfl : Int32.toInt z1 = z1.toInt) dX11_back_13 (by decide) (fun c7 => ?_) (fun c7 => ?_)
  · refine lv_aload_n hx hb dX11_back_19 rfl (lv_at hl 0 rfl) ?_
    refine lv_iload_n hx hb dX11_back_20 rfl (lv_at hl 1 rfl) ?_
    refine x_clp (x_runV (b := a) (As := [.int p0]) (rest := []) S (c_X11_isMark l E K F tl 0 z1 z2 z3 z4 u1 u2 u3 z8 z9 z10 z11 z12 z13 z14 z15 z16 z17 z18 z19 z20 ar0 ar1 ar2 ar3 ar4 ar5 ar6 ar7 ar8 ar9 ar10 H a p0 ha) mv_X11_isMark km_X11_382 rfl rfl ⟨Nat.le_of_ble_eq_true rfl, Nat.le_of_ble_eq_true rfl⟩ (rc_13 hK hT ha) hK (fun _ => XPh.blind) (fun U hU hW => XPh.at hK hz hS hT hU hW) rfl hl.1 (Nat.le_of_ble_eq_true rfl) dX11_back_21 ⟨Nat.le_of_ble_eq_true rfl, Nat.le_of_ble_eq_true rfl⟩) hS ?_
    rintro _ _ locs ⟨x9, rfl, b10, t8⟩ hS
    have t8 : x9.toInt = 0 ∨ (x9.toInt = 1 ∧ 0 ≤ p0.toInt ∧ p0.toInt < z2.toInt) := t8
    refine xi_zne (tgt := 30) hx hb (rfl : Int32.toInt x9 = x9.toInt) dX11_back_24 (by decide) (fun c11 => ?_) (fun c11 => ?_)
    · refine lv_aload_n hx hb dX11_back_30 rfl (lv_at hl 0 rfl) ?_
      refine x_cv0 (x_runV (b := a) (As := []) (rest := []) S (c_X11_layOrder l E K F tl 0 z1 z2 z3 z4 u1 u2 u3 z8 z9 z10 z11 z12 z13 z14 z15 z16 z17 z18 z19 z20 ar0 ar1 ar2 ar3 ar4 ar5 ar6 ar7 ar8 ar9 ar10 a ha hR) mv_X11_layOrder km_X11_200 rfl rfl ⟨Nat.le_of_ble_eq_true rfl, Nat.le_of_ble_eq_true rfl⟩ (rc_13 hK hT ha) hK (fun _ => XP.blind) (fun U hU hW => XP.at hK hz hS hT hU hW) rfl hl.1 (Nat.le_of_ble_eq_true rfl) dX11_back_31 ⟨Nat.le_of_ble_eq_true rfl, Nat.le_of_ble_eq_true rfl⟩) hS ?_
      rintro ⟨u12, f13⟩ H locs t14 hT hS
      have hT : TW E K F (tl, [0, z1, z2, u12, z4, u1, u2, u3, z8, z9, z10, z11, z12, z13, z14, z15, z16, z17, z18, z19, z20], [ar0, ar1, f13, ar3, ar4, ar5, ar6, ar7, ar8, ar9, ar10]) [] H := hT
      have t14 : 0 ≤ u12.toInt ∧ u12.toInt ≤ 12 ∧ u12.toInt ≤ (((oV ar1 f13) : Nat) : Int) := t14
      refine lv_iconst (v := 0) hx hb dX11_back_34 (by decide) ?_
      refine lv_istore_n (lv' := [(2, .int 0), (0, .ref a), (1, .int p0)]) hx hb dX11_back_35 rfl hl (by decide) rfl (fun ls hl => ?_)
      have L36 : ∀ (N18 : Nat) (x17 : Int32) (H : Heap) (locs : List Loc) (ls : Array Slot), (0 : Int) ≤ x17.toInt → 2147483648 - x17.toInt < ((N18 : Nat) : Int) → TW E K F (tl, [0, z1, z2, u12, z4, u1, u2, u3, z8, z9, z10, z11, z12, z13, z14, z15, z16, z17, z18, z19, z20], [ar0, ar1, f13, ar3, ar4, ar5, ar6, ar7, ar8, ar9, ar10]) [] H → va_S (xA E) s.heap H locs → lv_has ls 5 [(0, .ref a), (1, .int p0), (2, .int x17)] → W p l e rm_X11_back s m args below meth c H locs 0 0 Q (F0 m 36 ls []) := by
        intro N18
        induction N18 with
        | zero =>
          intro x17 H locs ls hf19 hm20
          exact absurd hm20 (z_X11_back_1 x17.toInt hf19 (xr x17))
        | succ N18 ih21 =>
          intro x17 H locs ls hf19 hm20 hT hS hl
          refine lv_iload_n hx hb dX11_back_36 rfl (lv_at hl 2 rfl) ?_
          refine lv_aload_n hx hb dX11_back_37 rfl (lv_at hl 0 rfl) ?_
          refine gX11_16 S hK hT ha kf_X11_197 dX11_back_38 (v := u12) rfl ?_
          refine xi_cge (tgt := 119) hx hb (rfl : Int32.toInt x17 = x17.toInt) (rfl : Int32.toInt u12 = u12.toInt) dX11_back_41 (by decide) (fun c22 => ?_) (fun c22 => ?_)
          · refine lv_aload_n hx hb dX11_back_119 rfl (lv_at hl 0 rfl) ?_
            refine lv_aload_n hx hb dX11_back_120 rfl (lv_at hl 0 rfl) ?_
            refine gX11_12 S hK hT ha kf_X11_39 dX11_back_121 (fun hk23 => ?_)
            refine lv_aload_n hx hb dX11_back_124 rfl (lv_at hl 0 rfl) ?_
            refine gX11_1 S hK hT ha kf_X11_9 dX11_back_125 (fun hk24 => ?_)
            refine lv_iconst (v := 0) hx hb dX11_back_128 (by decide) ?_
            refine x_cv0 (x_runV (b := a) (As := [.ref (F a 12), .ref (F a 1), .int 0]) (rest := []) S (c_X11_layStates l E K F tl 0 z1 z2 u12 z4 u1 u2 u3 z8 z9 z10 z11 z12 z13 z14 z15 z16 z17 z18 z19 z20 ar0 ar1 f13 ar3 ar4 ar5 ar6 ar7 ar8 ar9 ar10 a (F a 12) (F a 1) 0 ha hk23 (XO.a hk24 (by decide)) hR) mv_X11_layStates km_X11_210 rfl rfl ⟨Nat.le_of_ble_eq_true rfl, Nat.le_of_ble_eq_true rfl⟩ (rc_13 hK hT ha) hK (fun _ => XP.blind) (fun U hU hW => XP.at hK hz hS hT hU hW) rfl hl.1 (Nat.le_of_ble_eq_true rfl) dX11_back_129 ⟨Nat.le_of_ble_eq_true rfl, Nat.le_of_ble_eq_true rfl⟩) hS ?_
            rintro _ H locs - hT hS
            refine lv_aload_n hx hb dX11_back_132 rfl (lv_at hl 0 rfl) ?_
            refine gX11_3 S hK hT ha kf_X11_18 dX11_back_133 (fun hk27 => ?_)
            refine lv_sipush (v := 360) hx hb dX11_back_136 (by decide) ?_
            refine lv_iload_n hx hb dX11_back_139 rfl (lv_at hl 1 rfl) ?_
            refine xi_imul hx hb ((by decide) : Int32.toInt 360 = (360 : Int)) (rfl : Int32.toInt p0 = p0.toInt) dX11_back_140 (fun x28 t29 => ?_)
            refine lv_aload_n hx hb dX11_back_141 rfl (lv_at hl 0 rfl) ?_
            refine gX11_1 S hK hT ha kf_X11_9 dX11_back_142 (fun hk30 => ?_)
            refine lv_iconst (v := 0) hx hb dX11_back_145 (by decide) ?_
            refine x_cv0 (x_runS (As := [.ref (F a 3), .int x28, .ref (F a 1), .int 0]) (rest := []) S (c_X11_copy_r l E K F tl 0 z1 z2 u12 z4 u1 u2 u3 z8 z9 z10 z11 z12 z13 z14 z15 z16 z17 z18 z19 z20 ar0 ar1 f13 ar3 ar4 ar5 ar6 ar7 ar8 ar9 ar10 (F a 3) x28 (F a 1) 0 (XO.c hk27 (z_X11_back_2 p0.toInt x28.toInt x9.toInt z2.toInt e0 t8 (xbz b10) c11 t29 (xr p0) (xr x28) (xr x9) (xr z2))) hk30 (by decide)) ms_X11_copy km_X11_309 rfl rfl ⟨Nat.le_of_ble_eq_true rfl, Nat.le_of_ble_eq_true rfl⟩ hK (fun _ => XP.blind) (fun U hU hW => XP.at hK hz hS hT hU hW) rfl hl.1 (Nat.le_of_ble_eq_true rfl) dX11_back_146 ⟨Nat.le_of_ble_eq_true rfl, Nat.le_of_ble_eq_true rfl⟩) hS ?_
            rintro f31 H locs - hT hS
            have hT : TW E K F (tl, [0, z1, z2, u12, z4, u1, u2, u3, z8, z9, z10, z11, z12, z13, z14, z15, z16, z17, z18, z19, z20], [f31, ar1, f13, ar3, ar4, ar5, ar6, ar7, ar8, ar9, ar10]) [] H := hT
            refine lv_aload_n hx hb dX11_back_149 rfl (lv_at hl 0 rfl) ?_
            refine lv_aload_n hx hb dX11_back_150 rfl (lv_at hl 0 rfl) ?_
            refine gX11_11 S hK hT ha kf_X11_36 dX11_back_151 (fun hk34 => ?_)
            refine lv_aload_n hx hb dX11_back_154 rfl (lv_at hl 0 rfl) ?_
            refine gX11_1 S hK hT ha kf_X11_9 dX11_back_155 (fun hk35 => ?_)
            refine lv_iconst (v := 0) hx hb dX11_back_158 (by decide) ?_
            refine x_cv0 (x_runV (b := a) (As := [.ref (F a 11), .ref (F a 1), .int 0]) (rest := []) S (c_X11_layStates l E K F tl 0 z1 z2 u12 z4 u1 u2 u3 z8 z9 z10 z11 z12 z13 z14 z15 z16 z17 z18 z19 z20 f31 ar1 f13 ar3 ar4 ar5 ar6 ar7 ar8 ar9 ar10 a (F a 11) (F a 1) 0 ha hk34 (XO.a hk35 (by decide)) hR) mv_X11_layStates km_X11_210 rfl rfl ⟨Nat.le_of_ble_eq_true rfl, Nat.le_of_ble_eq_true rfl⟩ (rc_13 hK hT ha) hK (fun _ => XP.blind) (fun U hU hW => XP.at hK hz hS hT hU hW) rfl hl.1 (Nat.le_of_ble_eq_true rfl) dX11_back_159 ⟨Nat.le_of_ble_eq_true rfl, Nat.le_of_ble_eq_true rfl⟩) hS ?_
            rintro _ H locs - hT hS
            refine lv_aload_n hx hb dX11_back_162 rfl (lv_at hl 0 rfl) ?_
            refine lv_aload_n hx hb dX11_back_163 rfl (lv_at hl 0 rfl) ?_
            refine gX11_13 S hK hT ha kf_X11_42 dX11_back_164 (fun hk38 => ?_)
            refine lv_aload_n hx hb dX11_back_167 rfl (lv_at hl 0 rfl) ?_
            refine gX11_2 S hK hT ha kf_X11_15 dX11_back_168 (fun hk39 => ?_)
            refine lv_iconst (v := 0) hx hb dX11_back_171 (by decide) ?_
            refine x_cv0 (x_runV (b := a) (As := [.ref (F a 13), .ref (F a 2), .int 0]) (rest := []) S (c_X11_layStates l E K F tl 0 z1 z2 u12 z4 u1 u2 u3 z8 z9 z10 z11 z12 z13 z14 z15 z16 z17 z18 z19 z20 f31 ar1 f13 ar3 ar4 ar5 ar6 ar7 ar8 ar9 ar10 a (F a 13) (F a 2) 0 ha hk38 (XO.b hk39 (by decide)) hR) mv_X11_layStates km_X11_210 rfl rfl ⟨Nat.le_of_ble_eq_true rfl, Nat.le_of_ble_eq_true rfl⟩ (rc_13 hK hT ha) hK (fun _ => XP.blind) (fun U hU hW => XP.at hK hz hS hT hU hW) rfl hl.1 (Nat.le_of_ble_eq_true rfl) dX11_back_172 ⟨Nat.le_of_ble_eq_true rfl, Nat.le_of_ble_eq_true rfl⟩) hS ?_
            rintro _ H locs - hT hS
            refine lv_aload_n hx hb dX11_back_175 rfl (lv_at hl 0 rfl) ?_
            refine lv_aload_n hx hb dX11_back_176 rfl (lv_at hl 0 rfl) ?_
            refine gX11_12 S hK hT ha kf_X11_39 dX11_back_177 (fun hk42 => ?_)
            refine lv_aload_n hx hb dX11_back_180 rfl (lv_at hl 0 rfl) ?_
            refine gX11_11 S hK hT ha kf_X11_36 dX11_back_181 (fun hk43 => ?_)
            refine lv_iconst (v := 2) hx hb dX11_back_184 (by decide) ?_
            refine x_cv0 (x_runV (b := a) (As := [.ref (F a 12), .ref (F a 11), .int 2]) (rest := []) S (c_X11_moves l E K F tl 0 z1 z2 u12 z4 u1 u2 u3 z8 z9 z10 z11 z12 z13 z14 z15 z16 z17 z18 z19 z20 f31 ar1 f13 ar3 ar4 ar5 ar6 ar7 ar8 ar9 ar10 a (F a 12) (F a 11) 2 ha hk42 hk43 hR (by decide)) mv_X11_moves km_X11_334 rfl rfl ⟨Nat.le_of_ble_eq_true rfl, Nat.le_of_ble_eq_true rfl⟩ (rc_13 hK hT ha) hK (fun _ => XP.blind) (fun U hU hW => XP.at hK hz hS hT hU hW) rfl hl.1 (Nat.le_of_ble_eq_true rfl) dX11_back_185 ⟨Nat.le_of_ble_eq_true rfl, Nat.le_of_ble_eq_true rfl⟩) hS ?_
            rintro _ H locs - hT hS
            refine lv_aload_n hx hb dX11_back_188 rfl (lv_at hl 0 rfl) ?_
            refine lv_iload_n hx hb dX11_back_189 rfl (lv_at hl 1 rfl) ?_
            refine lv_iconst (v := 1) hx hb dX11_back_190 (by decide) ?_
            refine xi_iadd hx hb (rfl : Int32.toInt p0 = p0.toInt) ((by decide) : Int32.toInt 1 = (1 : Int)) dX11_back_191 (fun x46 t47 => ?_)
            refine pX11_7 (kq := []) (v := x46) S hK hT hS ha kf_X11_373 (Nat.le_of_ble_eq_true rfl) dX11_back_192 (fun _ h => by cases h) (fun H locs hT hS => ?_)
            have hT : TW E K F (tl, [0, z1, x46, u12, z4, u1, u2, u3, z8, z9, z10, z11, z12, z13, z14, z15, z16, z17, z18, z19, z20], [f31, ar1, f13, ar3, ar4, ar5, ar6, ar7, ar8, ar9, ar10]) [] H := hT
            refine lv_aload_n hx hb dX11_back_195 rfl (lv_at hl 0 rfl) ?_
            refine x_cl0 (x_runV (b := a) (As := []) (rest := []) S (c_X11_queueMany l E K F tl 0 z1 x46 u12 z4 u1 u2 u3 z8 z9 z10 z11 z12 z13 z14 z15 z16 z17 z18 z19 z20 f31 ar1 f13 ar3 ar4 ar5 ar6 ar7 ar8 ar9 ar10 a ha hR) mv_X11_queueMany km_X11_379 rfl rfl ⟨Nat.le_of_ble_eq_true rfl, Nat.le_of_ble_eq_true rfl⟩ (rc_13 hK hT ha) hK (fun _ => XP.blind) (fun U hU hW => XP.at hK hz hS hT hU hW) rfl hl.1 (Nat.le_of_ble_eq_true rfl) dX11_back_196 ⟨Nat.le_of_ble_eq_true rfl, Nat.le_of_ble_eq_true rfl⟩) hS ?_
            rintro _ ⟨u48, u49, f50, f51, f52⟩ H locs ⟨x54, rfl, t53⟩ hT hS
            have hT : TW E K F (tl, [0, z1, x46, u48, u49, u1, u2, u3, z8, z9, z10, z11, z12, z13, z14, z15, z16, z17, z18, z19, z20], [f31, ar1, f50, f51, f52, ar5, ar6, ar7, ar8, ar9, ar10]) [] H := hT
            have t53 : 0 ≤ u49.toInt ∧ u49.toInt ≤ 2388 ∧ u49.toInt ≤ (((fV ar1 f51 f52) : Nat) : Int) := t53
            exact x_ri hx hb hr hlk hQ (Nat.le_of_ble_eq_true rfl) (Nat.le_of_ble_eq_true rfl) hS dX11_back_199 (0, x46, u48, u49, u1, u2, u3, f31, f50, f51, f52) ⟨_, rfl, (z_X11_back_3 p0.toInt u3.toInt x28.toInt x46.toInt x9.toInt z2.toInt e0 t4 t8 (xbz b10) c11 t29 t47 (xr p0) (xr u3) (xr x28) (xr x46) (xr x9) (xr z2))⟩ hT.nil
          · refine lv_aload_n hx hb dX11_back_44 rfl (lv_at hl 0 rfl) ?_
            refine gX11_15 S hK hT ha kf_X11_48 dX11_back_45 (fun hk56 => ?_)
            refine lv_iload_n hx hb dX11_back_48 rfl (lv_at hl 2 rfl) ?_
            refine tld_0 S hK hT hk56 (at_42 (f := f13) rfl) (by decide) (z_X11_back_4 u12.toInt x17.toInt N18 (oV ar1 f13) t14 hf19 hm20 c22 (xr u12) (xr x17)) dX11_back_49 (fun x57 w58 o59 => ?_)
            have v61 : 0 ≤ x57.toInt ∧ x57.toInt ≤ 11 ∧ 0 ≤ (aI ar1 (10 * x57.toInt + (0 : Int))) := oV_get w58 (z_X11_back_5 u12.toInt x17.toInt N18 (oV ar1 f13) t14 hf19 hm20 c22 (xr u12) (xr x17))
            have v62 : (-1 ≤ (aI ar1 (10 * x57.toInt + (0 : Int))) ∧ (aI ar1 (10 * x57.toInt + (0 : Int))) ≤ 5) ∧ (0 ≤ (aI ar1 (10 * x57.toInt + (1 : Int))) ∧ (aI ar1 (10 * x57.toInt + (1 : Int))) ≤ 2) ∧ (0 ≤ (aI ar1 (10 * x57.toInt + (2 : Int))) ∧ (aI ar1 (10 * x57.toInt + (2 : Int))) ≤ 2) ∧ (-1 ≤ (aI ar1 (10 * x57.toInt + (3 : Int))) ∧ (aI ar1 (10 * x57.toInt + (3 : Int))) ≤ 2) ∧ ((aI ar1 (10 * x57.toInt + (0 : Int))) = 1 ∨ (aI ar1 (10 * x57.toInt + (0 : Int))) = 3 ∨ (aI ar1 (10 * x57.toInt + (0 : Int))) = 4 → 0 ≤ (aI ar1 (10 * x57.toInt + (3 : Int)))) := RV.row hR (z_X11_back_6 x57.toInt (aI ar1 (10 * x57.toInt + (0 : Int))) (aI f13 x17.toInt) w58 v61 (xr x57))
            refine lv_istore_n (lv' := [(3, .int x57), (0, .ref a), (1, .int p0), (2, .int x17)]) hx hb dX11_back_50 rfl hl (by decide) rfl (fun ls hl => ?_)
            refine lv_aload_n hx hb dX11_back_51 rfl (lv_at hl 1 rfl) ?_
            refine lv_iload_n hx hb dX11_back_52 rfl (lv_at hl 0 rfl) ?_
            refine x_clp (x_runV (b := a) (As := [.int x57]) (rest := []) S (c_X11_firstSubject l E K F tl 0 z1 z2 u12 z4 u1 u2 u3 z8 z9 z10 z11 z12 z13 z14 z15 z16 z17 z18 z19 z20 ar0 ar1 f13 ar3 ar4 ar5 ar6 ar7 ar8 ar9 ar10 H a x57 ha hR (z_X11_back_7 x57.toInt (aI ar1 (10 * x57.toInt + (0 : Int))) (aI ar1 (10 * x57.toInt + (1 : Int))) (aI ar1 (10 * x57.toInt + (2 : Int))) (aI ar1 (10 * x57.toInt + (3 : Int))) (aI f13 x17.toInt) w58 v61 v62 (xr x57))) mv_X11_firstSubject km_X11_179 rfl rfl ⟨Nat.le_of_ble_eq_true rfl, Nat.le_of_ble_eq_true rfl⟩ (rc_13 hK hT ha) hK (fun _ => XPh.blind) (fun U hU hW => XPh.at hK hz hS hT hU hW) rfl hl.1 (Nat.le_of_ble_eq_true rfl) dX11_back_53 ⟨Nat.le_of_ble_eq_true rfl, Nat.le_of_ble_eq_true rfl⟩) hS ?_
            rintro _ _ locs ⟨x64, rfl, t63⟩ hS
            have t63 : (((aI ar1 (10 * x57.toInt + (0 : Int))) = 2 ∨ (aI ar1 (10 * x57.toInt + (0 : Int))) = 4 ∨ (aI ar1 (10 * x57.toInt + (0 : Int))) = 5) ∧ x64.toInt = 0) ∨ ((aI ar1 (10 * x57.toInt + (0 : Int))) ≠ 2 ∧ (aI ar1 (10 * x57.toInt + (0 : Int))) ≠ 4 ∧ (aI ar1 (10 * x57.toInt + (0 : Int))) ≠ 5 ∧ x64.toInt = -99) := t63
            refine lv_istore (lv' := [(4, .int x64), (3, .int x57), (0, .ref a), (1, .int p0), (2, .int x17)]) hx hb dX11_back_56 hl (by decide) rfl (fun ls hl => ?_)
            have L58 : ∀ (N67 : Nat) (x66 : Int32) (H : Heap) (locs : List Loc) (ls : Array Slot), -99 ≤ x66.toInt ∧ x66.toInt ≤ 100 ∧ ((aI ar1 (10 * x57.toInt + (0 : Int))) = 2 ∨ (aI ar1 (10 * x57.toInt + (0 : Int))) = 4 ∨ (aI ar1 (10 * x57.toInt + (0 : Int))) = 5 → 0 ≤ x66.toInt ∧ x66.toInt ≤ 30) → 2147483648 - x66.toInt < ((N67 : Nat) : Int) → TW E K F (tl, [0, z1, z2, u12, z4, u1, u2, u3, z8, z9, z10, z11, z12, z13, z14, z15, z16, z17, z18, z19, z20], [ar0, ar1, f13, ar3, ar4, ar5, ar6, ar7, ar8, ar9, ar10]) [] H → va_S (xA E) s.heap H locs → lv_has ls 5 [(0, .ref a), (1, .int p0), (2, .int x17), (3, .int x57), (4, .int x66)] → W p l e rm_X11_back s m args below meth c H locs 0 0 Q (F0 m 58 ls []) := by
              intro N67
              induction N67 with
              | zero =>
                intro x66 H locs ls hf68 hm69
                exact absurd hm69 (z_X11_back_8 x57.toInt x64.toInt x66.toInt (aI ar1 (10 * x57.toInt + (0 : Int))) (aI ar1 (10 * x57.toInt + (1 : Int))) (aI ar1 (10 * x57.toInt + (2 : Int))) (aI ar1 (10 * x57.toInt + (3 : Int))) (aI f13 x17.toInt) hf68 w58 v61 v62 t63 (xr x57) (xr x64) (xr x66))
              | succ N67 ih70 =>
                intro x66 H locs ls hf68 hm69 hT hS hl
                refine lv_iload hx hb dX11_back_58 (lv_at hl 4 rfl) ?_
                refine lv_aload_n hx hb dX11_back_60 rfl (lv_at hl 0 rfl) ?_
                refine lv_iload_n hx hb dX11_back_61 rfl (lv_at hl 3 rfl) ?_
                refine x_clp (x_runV (b := a) (As := [.int x57]) (rest := [.int x66]) S (c_X11_lastSubject l E K F tl 0 z1 z2 u12 z4 u1 u2 u3 z8 z9 z10 z11 z12 z13 z14 z15 z16 z17 z18 z19 z20 ar0 ar1 f13 ar3 ar4 ar5 ar6 ar7 ar8 ar9 ar10 H a x57 ha hR (z_X11_back_9 x57.toInt x64.toInt x66.toInt N67 (aI ar1 (10 * x57.toInt + (0 : Int))) (aI ar1 (10 * x57.toInt + (1 : Int))) (aI ar1 (10 * x57.toInt + (2 : Int))) (aI ar1 (10 * x57.toInt + (3 : Int))) (aI f13 x17.toInt) w58 v61 v62 t63 hf68 hm69 (xr x57) (xr x64) (xr x66))) mv_X11_lastSubject km_X11_183 rfl rfl ⟨Nat.le_of_ble_eq_true rfl, Nat.le_of_ble_eq_true rfl⟩ (rc_13 hK hT ha) hK (fun _ => XPh.blind) (fun U hU hW => XPh.at hK hz hS hT hU hW) rfl hl.1 (Nat.le_of_ble_eq_true rfl) dX11_back_62 ⟨Nat.le_of_ble_eq_true rfl, Nat.le_of_ble_eq_true rfl⟩) hS ?_
                rintro _ _ locs ⟨x72, rfl, t71⟩ hS
                have t71 : (((aI ar1 (10 * x57.toInt + (0 : Int))) = 2 ∨ (aI ar1 (10 * x57.toInt + (0 : Int))) = 4 ∨ (aI ar1 (10 * x57.toInt + (0 : Int))) = 5) ∧ x72.toInt = 29) ∨ ((aI ar1 (10 * x57.toInt + (0 : Int))) ≠ 2 ∧ (aI ar1 (10 * x57.toInt + (0 : Int))) ≠ 4 ∧ (aI ar1 (10 * x57.toInt + (0 : Int))) ≠ 5 ∧ x72.toInt = 99) := t71
                have J113 : ∀ (H : Heap) (locs : List Loc) (ls : Array Slot), TW E K F (tl, [0, z1, z2, u12, z4, u1, u2, u3, z8, z9, z10, z11, z12, z13, z14, z15, z16, z17, z18, z19, z20], [ar0, ar1, f13, ar3, ar4, ar5, ar6, ar7, ar8, ar9, ar10]) [] H → va_S (xA E) s.heap H locs → lv_has ls 5 [(0, .ref a), (1, .int p0), (2, .int x17)] → W p l e rm_X11_back s m args below meth c H locs 0 0 Q (F0 m 113 ls []) := by
                  intro H locs ls hT hS hl
                  refine xi_iinc (n := 1) (lv' := fun z9 => [(2, .int z9), (0, .ref a), (1, .int p0)]) (k := 2) hx hb (rfl : Int32.toInt x17 = x17.toInt) (by decide) dX11_back_113 hl rfl (by decide) (fun _ => rfl) (fun x74 ls t75 hl => ?_)
                  have hl : lv_has ls 5 [(2, .int x74), (0, .ref a), (1, .int p0)] := hl
                  refine lv_goto (tgt := 36) hx hb dX11_back_116 (by decide) ?_
                  exact ih21 x74 _ _ _ (z_X11_back_10 u12.toInt x17.toInt x74.toInt N18 (oV ar1 f13) t14 hf19 hm20 c22 t75 (xr u12) (xr x17) (xr x74)) (z_X11_back_11 u12.toInt x17.toInt x74.toInt N18 (oV ar1 f13) t14 hf19 hm20 c22 t75 (xr u12) (xr x17) (xr x74)) hT.nil hS (lv_sub hl [1, 2, 0] rfl)
                refine xi_cgt (tgt := 113) hx hb (rfl : Int32.toInt x66 = x66.toInt) (rfl : Int32.toInt x72 = x72.toInt) dX11_back_65 (by decide) (fun c76 => ?_) (fun c76 => ?_)
                · exact J113 _ _ _ hT.nil hS (lv_sub hl [0, 1, 2] rfl)
                · refine lv_aload_n hx hb dX11_back_68 rfl (lv_at hl 0 rfl) ?_
                  refine lv_iload_n hx hb dX11_back_69 rfl (lv_at hl 3 rfl) ?_
                  refine lv_bipush (v := 6) hx hb dX11_back_70 (by decide) ?_
                  refine x_clp (x_runV (b := a) (As := [.int x57, .int 6]) (rest := []) S (c_X11_of l E K F tl 0 z1 z2 u12 z4 u1 u2 u3 z8 z9 z10 z11 z12 z13 z14 z15 z16 z17 z18 z19 z20 ar0 ar1 f13 ar3 ar4 ar5 ar6 ar7 ar8 ar9 ar10 H a x57 6 ha (z_X11_back_12 x57.toInt x64.toInt x66.toInt x72.toInt N67 (aI ar1 (10 * x57.toInt + (0 : Int))) (aI ar1 (10 * x57.toInt + (1 : Int))) (aI ar1 (10 * x57.toInt + (2 : Int))) (aI ar1 (10 * x57.toInt + (3 : Int))) (aI f13 x17.toInt) w58 v61 v62 t63 hf68 hm69 t71 c76 (xr x57) (xr x64) (xr x66) (xr x72)) (by decide)) mv_X11_of km_X11_165 rfl rfl ⟨Nat.le_of_ble_eq_true rfl, Nat.le_of_ble_eq_true rfl⟩ (rc_13 hK hT ha) hK (fun _ => XPh.blind) (fun U hU hW => XPh.at hK hz hS hT hU hW) rfl hl.1 (Nat.le_of_ble_eq_true rfl) dX11_back_72 ⟨Nat.le_of_ble_eq_true rfl, Nat.le_of_ble_eq_true rfl⟩) hS ?_
                  rintro _ _ locs ⟨x78, rfl, t77⟩ hS
                  have t77 : x78.toInt = (aI ar1 (10 * x57.toInt + (6 : Int))) := t77
                  refine xi_zne (tgt := 113) hx hb (rfl : Int32.toInt x78 = x78.toInt) dX11_back_75 (by decide) (fun c80 => ?_) (fun c80 => ?_)
                  · exact J113 _ _ _ hT.nil hS (lv_sub hl [0, 1, 2] rfl)
                  · refine lv_aload_n hx hb dX11_back_78 rfl (lv_at hl 0 rfl) ?_
                    refine lv_iload_n hx hb dX11_back_79 rfl (lv_at hl 3 rfl) ?_
                    refine lv_iload hx hb dX11_back_80 (lv_at hl 4 rfl) ?_
                    refine lv_aload_n hx hb dX11_back_82 rfl (lv_at hl 0 rfl) ?_
                    refine gX11_3 S hK hT ha kf_X11_18 dX11_back_83 (fun hk81 => ?_)
                    refine lv_sipush (v := 360) hx hb dX11_back_86 (by decide) ?_
                    refine lv_iload_n hx hb dX11_back_89 rfl (lv_at hl 1 rfl) ?_
                    refine xi_imul hx hb ((by decide) : Int32.toInt 360 = (360 : Int)) (rfl : Int32.toInt p0 = p0.toInt) dX11_back_90 (fun x82 t83 => ?_)
                    refine x_clp (x_runV (b := a) (As := [.int x57, .int x66, .ref (F a 3), .int x82]) (rest := []) S (c_X11_fails l E K F tl 0 z1 z2 u12 z4 u1 u2 u3 z8 z9 z10 z11 z12 z13 z14 z15 z16 z17 z18 z19 z20 ar0 ar1 f13 ar3 ar4 ar5 ar6 ar7 ar8 ar9 ar10 H a x57 x66 (F a 3) x82 ha (XO.c hk81 (z_X11_back_13 p0.toInt x82.toInt x9.toInt z2.toInt e0 t8 (xbz b10) c11 t83 (xr p0) (xr x82) (xr x9) (xr z2))) hR (z_X11_back_14 x57.toInt x64.toInt x66.toInt x72.toInt N67 (aI ar1 (10 * x57.toInt + (0 : Int))) (aI ar1 (10 * x57.toInt + (1 : Int))) (aI ar1 (10 * x57.toInt + (2 : Int))) (aI ar1 (10 * x57.toInt + (3 : Int))) (aI f13 x17.toInt) w58 v61 v62 t63 hf68 hm69 t71 c76 (xr x57) (xr x64) (xr x66) (xr x72)) (z_X11_back_15 x57.toInt x64.toInt x66.toInt x72.toInt N67 (aI ar1 (10 * x57.toInt + (0 : Int))) (aI ar1 (10 * x57.toInt + (1 : Int))) (aI ar1 (10 * x57.toInt + (2 : Int))) (aI ar1 (10 * x57.toInt + (3 : Int))) (aI f13 x17.toInt) w58 v61 v62 t63 hf68 hm69 t71 c76 (xr x57) (xr x64) (xr x66) (xr x72)) (z_X11_back_16 x57.toInt x64.toInt x66.toInt x72.toInt N67 (aI ar1 (10 * x57.toInt + (0 : Int))) (aI ar1 (10 * x57.toInt + (1 : Int))) (aI ar1 (10 * x57.toInt + (2 : Int))) (aI ar1 (10 * x57.toInt + (3 : Int))) (aI f13 x17.toInt) w58 v61 v62 t63 hf68 hm69 t71 c76 (xr x57) (xr x64) (xr x66) (xr x72))) mv_X11_fails km_X11_221 rfl rfl ⟨Nat.le_of_ble_eq_true rfl, Nat.le_of_ble_eq_true rfl⟩ (rc_13 hK hT ha) hK (fun _ => XPh.blind) (fun U hU hW => XPh.at hK hz hS hT hU hW) rfl hl.1 (Nat.le_of_ble_eq_true rfl) dX11_back_91 ⟨Nat.le_of_ble_eq_true rfl, Nat.le_of_ble_eq_true rfl⟩) hS ?_
                    rintro _ _ locs ⟨x84, rfl, b85⟩ hS
                    refine xi_zeq (tgt := 107) hx hb (rfl : Int32.toInt x84 = x84.toInt) dX11_back_94 (by decide) (fun c86 => ?_) (fun c86 => ?_)
                    · refine xi_iinc (n := 1) (lv' := fun z9 => [(4, .int z9), (0, .ref a), (1, .int p0), (2, .int x17), (3, .int x57)]) (k := 4) hx hb (rfl : Int32.toInt x66 = x66.toInt) (by decide) dX11_back_107 hl rfl (by decide) (fun _ => rfl) (fun x87 ls t88 hl => ?_)
                      have hl : lv_has ls 5 [(4, .int x87), (0, .ref a), (1, .int p0), (2, .int x17), (3, .int x57)] := hl
                      refine lv_goto (tgt := 58) hx hb dX11_back_110 (by decide) ?_
                      exact ih70 x87 _ _ _ (z_X11_back_17 x57.toInt x64.toInt x66.toInt x72.toInt x87.toInt N67 (aI ar1 (10 * x57.toInt + (0 : Int))) (aI ar1 (10 * x57.toInt + (1 : Int))) (aI ar1 (10 * x57.toInt + (2 : Int))) (aI ar1 (10 * x57.toInt + (3 : Int))) (aI f13 x17.toInt) w58 v61 v62 t63 hf68 hm69 t71 c76 t88 (xr x57) (xr x64) (xr x66) (xr x72) (xr x87)) (z_X11_back_18 x57.toInt x64.toInt x66.toInt x72.toInt x87.toInt N67 (aI ar1 (10 * x57.toInt + (0 : Int))) (aI ar1 (10 * x57.toInt + (1 : Int))) (aI ar1 (10 * x57.toInt + (2 : Int))) (aI ar1 (10 * x57.toInt + (3 : Int))) (aI f13 x17.toInt) w58 v61 v62 t63 hf68 hm69 t71 c76 t88 (xr x57) (xr x64) (xr x66) (xr x72) (xr x87)) hT.nil hS (lv_sub hl [1, 2, 3, 4, 0] rfl)
                    · refine lv_aload_n hx hb dX11_back_97 rfl (lv_at hl 0 rfl) ?_
                      refine lv_iload_n hx hb dX11_back_98 rfl (lv_at hl 3 rfl) ?_
                      refine lv_iload hx hb dX11_back_99 (lv_at hl 4 rfl) ?_
                      refine x_cv0 (x_runV (b := a) (As := [.int x57, .int x66]) (rest := []) S (c_X11_failed l E K F tl 0 z1 z2 u12 z4 u1 u2 u3 z8 z9 z10 z11 z12 z13 z14 z15 z16 z17 z18 z19 z20 ar0 ar1 f13 ar3 ar4 ar5 ar6 ar7 ar8 ar9 ar10 a x57 x66 ha (z_X11_back_19 x57.toInt x64.toInt x66.toInt x72.toInt N67 (aI ar1 (10 * x57.toInt + (0 : Int))) (aI ar1 (10 * x57.toInt + (1 : Int))) (aI ar1 (10 * x57.toInt + (2 : Int))) (aI ar1 (10 * x57.toInt + (3 : Int))) (aI f13 x17.toInt) w58 v61 v62 t63 hf68 hm69 t71 c76 (xr x57) (xr x64) (xr x66) (xr x72))) mv_X11_failed km_X11_299 rfl rfl ⟨Nat.le_of_ble_eq_true rfl, Nat.le_of_ble_eq_true rfl⟩ (rc_13 hK hT ha) hK (fun _ => XP.blind) (fun U hU hW => XP.at hK hz hS hT hU hW) rfl hl.1 (Nat.le_of_ble_eq_true rfl) dX11_back_101 ⟨Nat.le_of_ble_eq_true rfl, Nat.le_of_ble_eq_true rfl⟩) hS ?_
                      rintro ⟨u89, u90, u91⟩ H locs t92 hT hS
                      have hT : TW E K F (tl, [0, z1, z2, u12, z4, u89, u90, u91, z8, z9, z10, z11, z12, z13, z14, z15, z16, z17, z18, z19, z20], [ar0, ar1, f13, ar3, ar4, ar5, ar6, ar7, ar8, ar9, ar10]) [] H := hT
                      have t92 : 0 ≤ u91.toInt ∧ u91.toInt ≤ 24 := t92
                      refine lv_bipush (v := (-5)) hx hb dX11_back_104 (by decide) ?_
                      exact x_ri hx hb hr hlk hQ (Nat.le_of_ble_eq_true rfl) (Nat.le_of_ble_eq_true rfl) hS dX11_back_106 (0, z2, u12, z4, u89, u90, u91, ar0, f13, ar3, ar4) ⟨_, rfl, (z_X11_back_20 p0.toInt u91.toInt x82.toInt x9.toInt z2.toInt e0 t8 (xbz b10) c11 t83 t92 (xr p0) (xr u91) (xr x82) (xr x9) (xr z2))⟩ hT.nil
            exact L58 4294967297 x64 _ _ _ (z_X11_back_21 x57.toInt x64.toInt (aI ar1 (10 * x57.toInt + (0 : Int))) (aI ar1 (10 * x57.toInt + (1 : Int))) (aI ar1 (10 * x57.toInt + (2 : Int))) (aI ar1 (10 * x57.toInt + (3 : Int))) (aI f13 x17.toInt) w58 v61 v62 t63 (xr x57) (xr x64)) (z_X11_back_22 x57.toInt x64.toInt (aI ar1 (10 * x57.toInt + (0 : Int))) (aI ar1 (10 * x57.toInt + (1 : Int))) (aI ar1 (10 * x57.toInt + (2 : Int))) (aI ar1 (10 * x57.toInt + (3 : Int))) (aI f13 x17.toInt) w58 v61 v62 t63 (xr x57) (xr x64)) hT.nil hS (lv_sub hl [2, 3, 4, 1, 0] rfl)
      exact L36 4294967297 0 _ _ _ (by decide) (by decide) hT.nil hS (lv_sub hl [1, 2, 0] rfl)
    · refine lv_bipush (v := (-2)) hx hb dX11_back_27 (by decide) ?_
      exact x_ri hx hb hr hlk hQ (Nat.le_of_ble_eq_true rfl) (Nat.le_of_ble_eq_true rfl) hS dX11_back_29 (0, z2, z3, z4, u1, u2, u3, ar0, ar2, ar3, ar4) ⟨_, rfl, (z_X11_back_23 p0.toInt u3.toInt x9.toInt z2.toInt e0 t4 t8 (xbz b10) c11 (xr p0) (xr u3) (xr x9) (xr z2))⟩ hT.nil
  · refine lv_bipush (v := (-3)) hx hb dX11_back_16 (by decide) ?_
    exact x_ri hx hb hr hlk hQ (Nat.le_of_ble_eq_true rfl) (Nat.le_of_ble_eq_true rfl) hS dX11_back_18 (0, z2, z3, z4, u1, u2, u3, ar0, ar2, ar3, ar4) ⟨_, rfl, (z_X11_back_24 u3.toInt z2.toInt e0 t4 (xr u3) (xr z2))⟩ hT.nil

theorem z_X11_value_1 (a0 : Int) (a1 : Int) (a2 : Int) (a3 : Int) (a4 : Int) (a5 : Int) (a6 : Int) (a7 : Int) (a8 : Int) (h0 : a5 = 0 ∨ (a5 = 1 ∧ 0 ≤ a0 ∧ a0 ≤ 2 ∧ 0 ≤ a1 ∧ a1 ≤ 29 ∧ a8 = 1)) (h1 : a5 = 0 ∨ a5 = 1) (h2 : (a6 = 0 ∨ a6 = 1) ∧ (a6 = 0 → 0 ≤ a0 ∧ a0 ≤ 2 ∧ 0 ≤ a1 ∧ a1 ≤ 29 ∧ 0 ≤ a2 ∧ a2 ≤ 2)) (h3 : ¬ (a6 ≠ 0)) (h4 : 0 ≤ a0 ∧ a0 ≤ 2 ∧ 0 ≤ a1 ∧ a1 ≤ 29 → a7 = 4 * (30 * a0 + a1)) (h5 : a3 = a7 + (1 : Int) ∨ a7 + (1 : Int) < -2147483648 ∨ 2147483648 ≤ a7 + (1 : Int)) (h6 : a4 = a3 + a2 ∨ a3 + a2 < -2147483648 ∨ 2147483648 ≤ a3 + a2) (r0 : -2147483648 ≤ a0 ∧ a0 < 2147483648) (r1 : -2147483648 ≤ a1 ∧ a1 < 2147483648) (r2 : -2147483648 ≤ a2 ∧ a2 < 2147483648) (r3 : -2147483648 ≤ a3 ∧ a3 < 2147483648) (r4 : -2147483648 ≤ a4 ∧ a4 < 2147483648) (r5 : -2147483648 ≤ a5 ∧ a5 < 2147483648) (r6 : -2147483648 ≤ a6 ∧ a6 < 2147483648) (r7 : -2147483648 ≤ a7 ∧ a7 < 2147483648) : 0 ≤ a4 ∧ a4 < ((360 : Nat) : Int) := by omega
theorem z_X11_value_2 (a0 : Int) (a1 : Int) (a2 : Int) (a3 : Int) (a4 : Int) (h0 : a3 = 0 ∨ (a3 = 1 ∧ 0 ≤ a0 ∧ a0 ≤ 2 ∧ 0 ≤ a1 ∧ a1 ≤ 29 ∧ a4 = 1)) (h1 : a3 = 0 ∨ a3 = 1) (r0 : -2147483648 ≤ a0 ∧ a0 < 2147483648) (r1 : -2147483648 ≤ a1 ∧ a1 < 2147483648) (r2 : -2147483648 ≤ a2 ∧ a2 < 2147483648) (r3 : -2147483648 ≤ a3 ∧ a3 < 2147483648) : ((1 : Int) = 0 ∨ (1 : Int) = 1) ∧ ((1 : Int) = 0 → 0 ≤ a0 ∧ a0 ≤ 2 ∧ 0 ≤ a1 ∧ a1 ≤ 29 ∧ 0 ≤ a2 ∧ a2 ≤ 2) := by omega
theorem z_X11_value_3 (a0 : Int) (a1 : Int) (a2 : Int) (a3 : Int) (a4 : Int) (a5 : Int) (h0 : a3 = 0 ∨ (a3 = 1 ∧ 0 ≤ a0 ∧ a0 ≤ 2 ∧ 0 ≤ a1 ∧ a1 ≤ 29 ∧ a5 = 1)) (h1 : a3 = 0 ∨ a3 = 1) (h2 : ¬ (a3 = 0)) (h3 : (a4 = 1 ∧ 0 ≤ a2 ∧ a2 ≤ 2) ∨ (a4 = 0 ∧ (a2 < 0 ∨ 2 < a2))) (h4 : a4 = 0 ∨ a4 = 1) (h5 : ¬ (a4 = 0)) (r0 : -2147483648 ≤ a0 ∧ a0 < 2147483648) (r1 : -2147483648 ≤ a1 ∧ a1 < 2147483648) (r2 : -2147483648 ≤ a2 ∧ a2 < 2147483648) (r3 : -2147483648 ≤ a3 ∧ a3 < 2147483648) (r4 : -2147483648 ≤ a4 ∧ a4 < 2147483648) : ((0 : Int) = 0 ∨ (0 : Int) = 1) ∧ ((0 : Int) = 0 → 0 ≤ a0 ∧ a0 ≤ 2 ∧ 0 ≤ a1 ∧ a1 ≤ 29 ∧ 0 ≤ a2 ∧ a2 ≤ 2) := by omega
abbrev rm_X11_value : Room := { frames := 3, cells := 0, slots := 0, locals := 67 }
set_option maxHeartbeats 4000000 in
set_option maxRecDepth 100000 in
theorem c_X11_value (l : Launch) (E : XE) (K : Nat → Nat) (F : Nat → Nat → Nat) (tl z0 z1 z2 z3 z4 z5 z6 z7 z8 z9 z10 z11 z12 z13 z14 z15 z16 z17 z18 z19 z20 : Int32) (ar0 ar1 ar2 ar3 ar4 ar5 ar6 ar7 ar8 ar9 ar10 : Nat → Int32) (a : Nat) (p0 : Int32) (p1 : Int32) (p2 : Int32) (ha : K a = 13) : Met l yX11_value (xw yX11_value cX11_value 4 (some .int)) rm_X11_value (va_Pc [.ref a, .int p0, .int p1, .int p2] (XP E K F (tl, [z0, z1, z2, z3, z4, z5, z6, z7, z8, z9, z10, z11, z12, z13, z14, z15, z16, z17, z18, z19, z20], [ar0, ar1, ar2, ar3, ar4, ar5, ar6, ar7, ar8, ar9, ar10]))) (XQ E (fun v (u : Int32) => ∃ r : Int32, v = .int r) (fun u H => TW E K F (tl, [u, z1, z2, z3, z4, z5, z6, z7, z8, z9, z10, z11, z12, z13, z14, z15, z16, z17, z18, z19, z20], [ar0, ar1, ar2, ar3, ar4, ar5, ar6, ar7, ar8, ar9, ar10]) [] H)) 0 0 (xA E) := by
  refine x_enter (by decide) (Nat.le_of_ble_eq_true rfl) ?_
  intro p e s m args below meth c Q S hr hlk hnm hQ hP ls hl
  obtain ⟨hz, hK, hT⟩ := hP
  obtain ⟨hx, hb, -, -, -⟩ := id S
  obtain ⟨H, hT, hS, hgo⟩ : ∃ H : Heap, TW E K F (tl, [z0, z1, z2, z3, z4, z5, z6, z7, z8, z9, z10, z11, z12, z13, z14, z15, z16, z17, z18, z19, z20], [ar0, ar1, ar2, ar3, ar4, ar5, ar6, ar7, ar8, ar9, ar10]) [] H ∧ va_S (xA E) s.heap H [] ∧ H = s.heap := ⟨_, hT, va_S.rf, rfl⟩
  rw [← hgo]
  have hl : lv_has ls 4 [(0, .ref a), (1, .int p0), (2, .int p1), (3, .int p2)] := hl
  refine lv_aload_n hx hb dX11_value_0 rfl (lv_at hl 0 rfl) ?_
  refine lv_aload_n hx hb dX11_value_1 rfl (lv_at hl 0 rfl) ?_
  refine lv_iload_n hx hb dX11_value_2 rfl (lv_at hl 1 rfl) ?_
  refine lv_iload_n hx hb dX11_value_3 rfl (lv_at hl 2 rfl) ?_
  refine x_clp (x_runV (b := a) (As := [.int p0, .int p1]) (rest := [.ref a]) S (c_X11_isRow l E K F tl z0 z1 z2 z3 z4 z5 z6 z7 z8 z9 z10 z11 z12 z13 z14 z15 z16 z17 z18 z19 z20 ar0 ar1 ar2 ar3 ar4 ar5 ar6 ar7 ar8 ar9 ar10 H a p0 p1 ha) mv_X11_isRow km_X11_346 rfl rfl ⟨Nat.le_of_ble_eq_true rfl, Nat.le_of_ble_eq_true rfl⟩ (rc_13 hK hT ha) hK (fun _ => XPh.blind) (fun U hU hW => XPh.at hK hz hS hT hU hW) rfl hl.1 (Nat.le_of_ble_eq_true rfl) dX11_value_4 ⟨Nat.le_of_ble_eq_true rfl, Nat.le_of_ble_eq_true rfl⟩) hS ?_
  rintro _ _ locs ⟨x2, rfl, b3, t1⟩ hS
  have t1 : x2.toInt = 0 ∨ (x2.toInt = 1 ∧ 0 ≤ p0.toInt ∧ p0.toInt ≤ 2 ∧ 0 ≤ p1.toInt ∧ p1.toInt ≤ 29 ∧ (aI ar0 (4 * (30 * p0.toInt + p1.toInt))) = 1) := t1
  have J22 : ∀ (x4 : Int32) (H : Heap) (locs : List Loc) (ls : Array Slot), (x4.toInt = 0 ∨ x4.toInt = 1) ∧ (x4.toInt = 0 → 0 ≤ p0.toInt ∧ p0.toInt ≤ 2 ∧ 0 ≤ p1.toInt ∧ p1.toInt ≤ 29 ∧ 0 ≤ p2.toInt ∧ p2.toInt ≤ 2) → TW E K F (tl, [z0, z1, z2, z3, z4, z5, z6, z7, z8, z9, z10, z11, z12, z13, z14, z15, z16, z17, z18, z19, z20], [ar0, ar1, ar2, ar3, ar4, ar5, ar6, ar7, ar8, ar9, ar10]) [] H → va_S (xA E) s.heap H locs → lv_has ls 4 [(0, .ref a), (1, .int p0), (2, .int p1), (3, .int p2)] → W p l e rm_X11_value s m args below meth c H locs 0 0 Q (F0 m 22 ls [.int x4, .ref a]) := by
    intro x4 H locs ls hf5 hT hS hl
    refine pX11_0 (kq := []) (v := x4) S hK hT hS ha kf_X11_134 (Nat.le_of_ble_eq_true rfl) dX11_value_22 (fun _ h => by cases h) (fun H locs hT hS => ?_)
    have hT : TW E K F (tl, [x4, z1, z2, z3, z4, z5, z6, z7, z8, z9, z10, z11, z12, z13, z14, z15, z16, z17, z18, z19, z20], [ar0, ar1, ar2, ar3, ar4, ar5, ar6, ar7, ar8, ar9, ar10]) [] H := hT
    refine lv_aload_n hx hb dX11_value_25 rfl (lv_at hl 0 rfl) ?_
    refine gX11_0 S hK hT ha kf_X11_134 dX11_value_26 (v := x4) rfl ?_
    refine xi_zne (tgt := 49) hx hb (rfl : Int32.toInt x4 = x4.toInt) dX11_value_29 (by decide) (fun c6 => ?_) (fun c6 => ?_)
    · refine lv_iconst (v := 0) hx hb dX11_value_49 (by decide) ?_
      exact x_ri hx hb hr hlk hQ (Nat.le_of_ble_eq_true rfl) (Nat.le_of_ble_eq_true rfl) hS dX11_value_50 (x4) ⟨_, rfl⟩ hT.nil
    · refine lv_aload_n hx hb dX11_value_32 rfl (lv_at hl 0 rfl) ?_
      refine gX11_1 S hK hT ha kf_X11_9 dX11_value_33 (fun hk7 => ?_)
      refine lv_iload_n hx hb dX11_value_36 rfl (lv_at hl 1 rfl) ?_
      refine lv_iload_n hx hb dX11_value_37 rfl (lv_at hl 2 rfl) ?_
      refine x_clp (x_runS (As := [.int p0, .int p1]) (rest := [.ref (F a 1)]) S (c_X11_at l E K F tl x4 z1 z2 z3 z4 z5 z6 z7 z8 z9 z10 z11 z12 z13 z14 z15 z16 z17 z18 z19 z20 ar0 ar1 ar2 ar3 ar4 ar5 ar6 ar7 ar8 ar9 ar10 H p0 p1) ms_X11_at km_X11_156 rfl rfl ⟨Nat.le_of_ble_eq_true rfl, Nat.le_of_ble_eq_true rfl⟩ hK (fun _ => XPh.blind) (fun U hU hW => XPh.at hK hz hS hT hU hW) rfl hl.1 (Nat.le_of_ble_eq_true rfl) dX11_value_38 ⟨Nat.le_of_ble_eq_true rfl, Nat.le_of_ble_eq_true rfl⟩) hS ?_
      rintro _ _ locs ⟨x9, rfl, t8⟩ hS
      have t8 : 0 ≤ p0.toInt ∧ p0.toInt ≤ 2 ∧ 0 ≤ p1.toInt ∧ p1.toInt ≤ 29 → x9.toInt = 4 * (30 * p0.toInt + p1.toInt) := t8
      refine lv_iconst (v := 1) hx hb dX11_value_41 (by decide) ?_
      refine xi_iadd hx hb (rfl : Int32.toInt x9 = x9.toInt) ((by decide) : Int32.toInt 1 = (1 : Int)) dX11_value_42 (fun x11 t12 => ?_)
      refine lv_iload_n hx hb dX11_value_43 rfl (lv_at hl 3 rfl) ?_
      refine xi_iadd hx hb (rfl : Int32.toInt x11 = x11.toInt) (rfl : Int32.toInt p2 = p2.toInt) dX11_value_44 (fun x13 t14 => ?_)
      refine tld_0 S hK hT hk7 (at_30 (f := ar0) rfl) (by decide) (z_X11_value_1 p0.toInt p1.toInt p2.toInt x11.toInt x13.toInt x2.toInt x4.toInt x9.toInt (aI ar0 (4 * (30 * p0.toInt + p1.toInt))) t1 (xbz b3) hf5 c6 t8 t12 t14 (xr p0) (xr p1) (xr p2) (xr x11) (xr x13) (xr x2) (xr x4) (xr x9)) dX11_value_45 (fun x15 w16 o17 => ?_)
      refine lv_goto (tgt := 50) hx hb dX11_value_46 (by decide) ?_
      exact x_ri hx hb hr hlk hQ (Nat.le_of_ble_eq_true rfl) (Nat.le_of_ble_eq_true rfl) hS dX11_value_50 (x4) ⟨_, rfl⟩ hT.nil
  have J21 : ∀ (H : Heap) (locs : List Loc) (ls : Array Slot), TW E K F (tl, [z0, z1, z2, z3, z4, z5, z6, z7, z8, z9, z10, z11, z12, z13, z14, z15, z16, z17, z18, z19, z20], [ar0, ar1, ar2, ar3, ar4, ar5, ar6, ar7, ar8, ar9, ar10]) [] H → va_S (xA E) s.heap H locs → lv_has ls 4 [(0, .ref a), (1, .int p0), (2, .int p1), (3, .int p2)] → W p l e rm_X11_value s m args below meth c H locs 0 0 Q (F0 m 21 ls [.ref a]) := by
    intro H locs ls hT hS hl
    refine lv_iconst (v := 1) hx hb dX11_value_21 (by decide) ?_
    exact J22 1 _ _ _ (z_X11_value_2 p0.toInt p1.toInt p2.toInt x2.toInt (aI ar0 (4 * (30 * p0.toInt + p1.toInt))) t1 (xbz b3) (xr p0) (xr p1) (xr p2) (xr x2)) hT.nil hS (lv_sub hl [0, 1, 2, 3] rfl)
  refine xi_zeq (tgt := 21) hx hb (rfl : Int32.toInt x2 = x2.toInt) dX11_value_7 (by decide) (fun c19 => ?_) (fun c19 => ?_)
  · exact J21 _ _ _ hT.nil hS (lv_sub hl [0, 1, 2, 3] rfl)
  · refine lv_iload_n hx hb dX11_value_10 rfl (lv_at hl 3 rfl) ?_
    refine x_clp (x_runS (As := [.int p2]) (rest := [.ref a]) S (c_X11_isColumn l E K F tl z0 z1 z2 z3 z4 z5 z6 z7 z8 z9 z10 z11 z12 z13 z14 z15 z16 z17 z18 z19 z20 ar0 ar1 ar2 ar3 ar4 ar5 ar6 ar7 ar8 ar9 ar10 H p2) ms_X11_isColumn km_X11_356 rfl rfl ⟨Nat.le_of_ble_eq_true rfl, Nat.le_of_ble_eq_true rfl⟩ hK (fun _ => XPh.blind) (fun U hU hW => XPh.at hK hz hS hT hU hW) rfl hl.1 (Nat.le_of_ble_eq_true rfl) dX11_value_11 ⟨Nat.le_of_ble_eq_true rfl, Nat.le_of_ble_eq_true rfl⟩) hS ?_
    rintro _ _ locs ⟨x21, rfl, b22, t20⟩ hS
    have t20 : (x21.toInt = 1 ∧ 0 ≤ p2.toInt ∧ p2.toInt ≤ 2) ∨ (x21.toInt = 0 ∧ (p2.toInt < 0 ∨ 2 < p2.toInt)) := t20
    refine xi_zeq (tgt := 21) hx hb (rfl : Int32.toInt x21 = x21.toInt) dX11_value_14 (by decide) (fun c23 => ?_) (fun c23 => ?_)
    · exact J21 _ _ _ hT.nil hS (lv_sub hl [0, 1, 2, 3] rfl)
    · refine lv_iconst (v := 0) hx hb dX11_value_17 (by decide) ?_
      refine lv_goto (tgt := 22) hx hb dX11_value_18 (by decide) ?_
      exact J22 0 _ _ _ (z_X11_value_3 p0.toInt p1.toInt p2.toInt x2.toInt x21.toInt (aI ar0 (4 * (30 * p0.toInt + p1.toInt))) t1 (xbz b3) c19 t20 (xbz b22) c23 (xr p0) (xr p1) (xr p2) (xr x2) (xr x21)) hT.nil hS (lv_sub hl [0, 1, 2, 3] rfl)

theorem z_X11_rows_1 (a0 : Int) (h0 : (0 : Int) ≤ a0) (r0 : -2147483648 ≤ a0 ∧ a0 < 2147483648) : ¬ (2147483648 - a0 < ((0 : Nat) : Int)) := by omega
theorem z_X11_rows_2 (a0 : Int) (a1 : Int) (a2 : Int) (a3 : Int) (a4 : Nat) (h0 : (a2 = 1 ∧ 0 ≤ a0 ∧ a0 ≤ 2) ∨ (a2 = 0 ∧ (a0 < 0 ∨ 2 < a0))) (h1 : a2 = 0 ∨ a2 = 1) (h2 : ¬ (a2 = 0)) (h3 : (0 : Int) ≤ a1) (h4 : 2147483648 - a1 < ((a4 + 1 : Nat) : Int)) (h5 : ¬ ((30 : Int) ≤ a1)) (h6 : 0 ≤ a0 ∧ a0 ≤ 2 ∧ 0 ≤ a1 ∧ a1 ≤ 29 → a3 = 4 * (30 * a0 + a1)) (r0 : -2147483648 ≤ a0 ∧ a0 < 2147483648) (r1 : -2147483648 ≤ a1 ∧ a1 < 2147483648) (r2 : -2147483648 ≤ a2 ∧ a2 < 2147483648) (r3 : -2147483648 ≤ a3 ∧ a3 < 2147483648) : 0 ≤ a3 ∧ a3 < ((360 : Nat) : Int) := by omega
theorem z_X11_rows_3 (a0 : Int) (a1 : Int) (a2 : Int) (a3 : Int) (a4 : Int) (a5 : Nat) (h0 : (a2 = 1 ∧ 0 ≤ a0 ∧ a0 ≤ 2) ∨ (a2 = 0 ∧ (a0 < 0 ∨ 2 < a0))) (h1 : a2 = 0 ∨ a2 = 1) (h2 : ¬ (a2 = 0)) (h3 : (0 : Int) ≤ a1) (h4 : 2147483648 - a1 < ((a5 + 1 : Nat) : Int)) (h5 : ¬ ((30 : Int) ≤ a1)) (h6 : 0 ≤ a0 ∧ a0 ≤ 2 ∧ 0 ≤ a1 ∧ a1 ≤ 29 → a3 = 4 * (30 * a0 + a1)) (h7 : 0 ≤ a0 ∧ a0 ≤ 2 ∧ 0 ≤ a1 ∧ a1 ≤ 29 → a4 = 4 * (30 * a0 + a1)) (r0 : -2147483648 ≤ a0 ∧ a0 < 2147483648) (r1 : -2147483648 ≤ a1 ∧ a1 < 2147483648) (r2 : -2147483648 ≤ a2 ∧ a2 < 2147483648) (r3 : -2147483648 ≤ a3 ∧ a3 < 2147483648) (r4 : -2147483648 ≤ a4 ∧ a4 < 2147483648) : 0 ≤ a4 ∧ a4 < ((360 : Nat) : Int) := by omega
theorem z_X11_rows_4 (a0 : Int) (a1 : Int) (a2 : Int) (a3 : Int) (a4 : Int) (a5 : Int) (a6 : Nat) (h0 : (a2 = 1 ∧ 0 ≤ a0 ∧ a0 ≤ 2) ∨ (a2 = 0 ∧ (a0 < 0 ∨ 2 < a0))) (h1 : a2 = 0 ∨ a2 = 1) (h2 : ¬ (a2 = 0)) (h3 : (0 : Int) ≤ a1) (h4 : 2147483648 - a1 < ((a6 + 1 : Nat) : Int)) (h5 : ¬ ((30 : Int) ≤ a1)) (h6 : 0 ≤ a0 ∧ a0 ≤ 2 ∧ 0 ≤ a1 ∧ a1 ≤ 29 → a3 = 4 * (30 * a0 + a1)) (h7 : 0 ≤ a0 ∧ a0 ≤ 2 ∧ 0 ≤ a1 ∧ a1 ≤ 29 → a4 = 4 * (30 * a0 + a1)) (h8 : a5 = a1 + 1 ∨ a1 + 1 < -2147483648 ∨ 2147483648 ≤ a1 + 1) (r0 : -2147483648 ≤ a0 ∧ a0 < 2147483648) (r1 : -2147483648 ≤ a1 ∧ a1 < 2147483648) (r2 : -2147483648 ≤ a2 ∧ a2 < 2147483648) (r3 : -2147483648 ≤ a3 ∧ a3 < 2147483648) (r4 : -2147483648 ≤ a4 ∧ a4 < 2147483648) (r5 : -2147483648 ≤ a5 ∧ a5 < 2147483648) : (0 : Int) ≤ a5 := by omega
theorem z_X11_rows_5 (a0 : Int) (a1 : Int) (a2 : Int) (a3 : Int) (a4 : Int) (a5 : Int) (a6 : Nat) (h0 : (a2 = 1 ∧ 0 ≤ a0 ∧ a0 ≤ 2) ∨ (a2 = 0 ∧ (a0 < 0 ∨ 2 < a0))) (h1 : a2 = 0 ∨ a2 = 1) (h2 : ¬ (a2 = 0)) (h3 : (0 : Int) ≤ a1) (h4 : 2147483648 - a1 < ((a6 + 1 : Nat) : Int)) (h5 : ¬ ((30 : Int) ≤ a1)) (h6 : 0 ≤ a0 ∧ a0 ≤ 2 ∧ 0 ≤ a1 ∧ a1 ≤ 29 → a3 = 4 * (30 * a0 + a1)) (h7 : 0 ≤ a0 ∧ a0 ≤ 2 ∧ 0 ≤ a1 ∧ a1 ≤ 29 → a4 = 4 * (30 * a0 + a1)) (h8 : a5 = a1 + 1 ∨ a1 + 1 < -2147483648 ∨ 2147483648 ≤ a1 + 1) (r0 : -2147483648 ≤ a0 ∧ a0 < 2147483648) (r1 : -2147483648 ≤ a1 ∧ a1 < 2147483648) (r2 : -2147483648 ≤ a2 ∧ a2 < 2147483648) (r3 : -2147483648 ≤ a3 ∧ a3 < 2147483648) (r4 : -2147483648 ≤ a4 ∧ a4 < 2147483648) (r5 : -2147483648 ≤ a5 ∧ a5 < 2147483648) : 2147483648 - a5 < ((a6 : Nat) : Int) := by omega
abbrev rm_X11_rows : Room := { frames := 2, cells := 0, slots := 0, locals := 45 }
set_option maxHeartbeats 4000000 in
set_option maxRecDepth 100000 in
theorem c_X11_rows (l : Launch) (E : XE) (K : Nat → Nat) (F : Nat → Nat → Nat) (tl z0 z1 z2 z3 z4 z5 z6 z7 z8 z9 z10 z11 z12 z13 z14 z15 z16 z17 z18 z19 z20 : Int32) (ar0 ar1 ar2 ar3 ar4 ar5 ar6 ar7 ar8 ar9 ar10 : Nat → Int32) (a : Nat) (p0 : Int32) (p1 : Int32) (ha : K a = 13) : Met l yX11_rows (xw yX11_rows cX11_rows 6 (some .int)) rm_X11_rows (va_Pc [.ref a, .int p0, .int p1] (XP E K F (tl, [z0, z1, z2, z3, z4, z5, z6, z7, z8, z9, z10, z11, z12, z13, z14, z15, z16, z17, z18, z19, z20], [ar0, ar1, ar2, ar3, ar4, ar5, ar6, ar7, ar8, ar9, ar10]))) (XQ E (fun v (u : Int32) => ∃ r : Int32, v = .int r) (fun u H => TW E K F (tl, [u, z1, z2, z3, z4, z5, z6, z7, z8, z9, z10, z11, z12, z13, z14, z15, z16, z17, z18, z19, z20], [ar0, ar1, ar2, ar3, ar4, ar5, ar6, ar7, ar8, ar9, ar10]) [] H)) 0 0 (xA E) := by
  refine x_enter (by decide) (Nat.le_of_ble_eq_true rfl) ?_
  intro p e s m args below meth c Q S hr hlk hnm hQ hP ls hl
  obtain ⟨hz, hK, hT⟩ := hP
  obtain ⟨hx, hb, -, -, -⟩ := id S
  obtain ⟨H, hT, hS, hgo⟩ : ∃ H : Heap, TW E K F (tl, [z0, z1, z2, z3, z4, z5, z6, z7, z8, z9, z10, z11, z12, z13, z14, z15, z16, z17, z18, z19, z20], [ar0, ar1, ar2, ar3, ar4, ar5, ar6, ar7, ar8, ar9, ar10]) [] H ∧ va_S (xA E) s.heap H [] ∧ H = s.heap := ⟨_, hT, va_S.rf, rfl⟩
  rw [← hgo]
  have hl : lv_has ls 6 [(0, .ref a), (1, .int p0), (2, .int p1)] := hl
  refine lv_aload_n hx hb dX11_rows_0 rfl (lv_at hl 0 rfl) ?_
  refine lv_iconst (v := 0) hx hb dX11_rows_1 (by decide) ?_
  refine pX11_0 (kq := []) (v := 0) S hK hT hS ha kf_X11_134 (Nat.le_of_ble_eq_true rfl) dX11_rows_2 (fun _ h => by cases h) (fun H locs hT hS => ?_)
  have hT : TW E K F (tl, [0, z1, z2, z3, z4, z5, z6, z7, z8, z9, z10, z11, z12, z13, z14, z15, z16, z17, z18, z19, z20], [ar0, ar1, ar2, ar3, ar4, ar5, ar6, ar7, ar8, ar9, ar10]) [] H := hT
  refine lv_iload_n hx hb dX11_rows_5 rfl (lv_at hl 1 rfl) ?_
  refine x_clp (x_runS (As := [.int p0]) (rest := []) S (c_X11_isTable l E K F tl 0 z1 z2 z3 z4 z5 z6 z7 z8 z9 z10 z11 z12 z13 z14 z15 z16 z17 z18 z19 z20 ar0 ar1 ar2 ar3 ar4 ar5 ar6 ar7 ar8 ar9 ar10 H p0) ms_X11_isTable km_X11_149 rfl rfl ⟨Nat.le_of_ble_eq_true rfl, Nat.le_of_ble_eq_true rfl⟩ hK (fun _ => XPh.blind) (fun U hU hW => XPh.at hK hz hS hT hU hW) rfl hl.1 (Nat.le_of_ble_eq_true rfl) dX11_rows_6 ⟨Nat.le_of_ble_eq_true rfl, Nat.le_of_ble_eq_true rfl⟩) hS ?_
  rintro _ _ locs ⟨x2, rfl, b3, t1⟩ hS
  have t1 : (x2.toInt = 1 ∧ 0 ≤ p0.toInt ∧ p0.toInt ≤ 2) ∨ (x2.toInt = 0 ∧ (p0.toInt < 0 ∨ 2 < p0.toInt)) := t1
  refine xi_zeq (tgt := 22) hx hb (rfl : Int32.toInt x2 = x2.toInt) dX11_rows_9 (by decide) (fun c4 => ?_) (fun c4 => ?_)
  · refine lv_iconst (v := (-1)) hx hb dX11_rows_22 (by decide) ?_
    exact x_ri hx hb hr hlk hQ (Nat.le_of_ble_eq_true rfl) (Nat.le_of_ble_eq_true rfl) hS dX11_rows_23 (0) ⟨_, rfl⟩ hT.nil
  · refine lv_iload_n hx hb dX11_rows_12 rfl (lv_at hl 2 rfl) ?_
    refine lv_i2l (v := p1.toInt64) hx hb dX11_rows_13 rfl ?_
    refine lv_lconst (v := (0 : Int64)) hx hb dX11_rows_14 (by decide) ?_
    refine lv_lconst (v := (1 : Int64)) hx hb dX11_rows_15 (by decide) ?_
    refine x_clp (x_runS (As := [.long p1.toInt64, .long (0 : Int64), .long (1 : Int64)]) (rest := []) S (c_X11_in l E K F tl 0 z1 z2 z3 z4 z5 z6 z7 z8 z9 z10 z11 z12 z13 z14 z15 z16 z17 z18 z19 z20 ar0 ar1 ar2 ar3 ar4 ar5 ar6 ar7 ar8 ar9 ar10 H p1.toInt64 (0 : Int64) (1 : Int64) p1.toInt (0 : Int) (1 : Int) (xl_i2l (rfl : Int32.toInt p1 = p1.toInt)) (by decide) (by decide)) ms_X11_in km_X11_139 rfl rfl ⟨Nat.le_of_ble_eq_true rfl, Nat.le_of_ble_eq_true rfl⟩ hK (fun _ => XPh.blind) (fun U hU hW => XPh.at hK hz hS hT hU hW) rfl hl.1 (Nat.le_of_ble_eq_true rfl) dX11_rows_16 ⟨Nat.le_of_ble_eq_true rfl, Nat.le_of_ble_eq_true rfl⟩) hS ?_
    rintro _ _ locs ⟨x5, rfl, b6, t7⟩ hS
    have t7 : (x5.toInt = 1 ∧ (0 : Int) ≤ p1.toInt ∧ p1.toInt ≤ (1 : Int)) ∨ (x5.toInt = 0 ∧ (p1.toInt < (0 : Int) ∨ (1 : Int) < p1.toInt)) := t7
    refine xi_zne (tgt := 24) hx hb (rfl : Int32.toInt x5 = x5.toInt) dX11_rows_19 (by decide) (fun c8 => ?_) (fun c8 => ?_)
    · refine lv_iconst (v := 0) hx hb dX11_rows_24 (by decide) ?_
      refine lv_istore_n (lv' := [(3, .int 0), (0, .ref a), (1, .int p0), (2, .int p1)]) hx hb dX11_rows_25 rfl hl (by decide) rfl (fun ls hl => ?_)
      refine lv_iconst (v := 0) hx hb dX11_rows_26 (by decide) ?_
      refine lv_istore (lv' := [(4, .int 0), (3, .int 0), (0, .ref a), (1, .int p0), (2, .int p1)]) hx hb dX11_rows_27 hl (by decide) rfl (fun ls hl => ?_)
      refine lv_iconst (v := 0) hx hb dX11_rows_29 (by decide) ?_
      refine lv_istore (lv' := [(5, .int 0), (4, .int 0), (3, .int 0), (0, .ref a), (1, .int p0), (2, .int p1)]) hx hb dX11_rows_30 hl (by decide) rfl (fun ls hl => ?_)
      have L32 : ∀ (N12 : Nat) (x9 : Int32) (x10 : Int32) (x11 : Int32) (H : Heap) (locs : List Loc) (ls : Array Slot), (0 : Int) ≤ x11.toInt → 2147483648 - x11.toInt < ((N12 : Nat) : Int) → TW E K F (tl, [0, z1, z2, z3, z4, z5, z6, z7, z8, z9, z10, z11, z12, z13, z14, z15, z16, z17, z18, z19, z20], [ar0, ar1, ar2, ar3, ar4, ar5, ar6, ar7, ar8, ar9, ar10]) [] H → va_S (xA E) s.heap H locs → lv_has ls 6 [(0, .ref a), (1, .int p0), (2, .int p1), (3, .int x9), (4, .int x10), (5, .int x11)] → W p l e rm_X11_rows s m args below meth c H locs 0 0 Q (F0 m 32 ls []) := by
        intro N12
        induction N12 with
        | zero =>
          intro x9 x10 x11 H locs ls hf13 hm14
          exact absurd hm14 (z_X11_rows_1 x11.toInt hf13 (xr x11))
        | succ N12 ih15 =>
          intro x9 x10 x11 H locs ls hf13 hm14 hT hS hl
          refine lv_iload hx hb dX11_rows_32 (lv_at hl 5 rfl) ?_
          refine lv_bipush (v := 30) hx hb dX11_rows_34 (by decide) ?_
          refine xi_cge (tgt := 78) hx hb (rfl : Int32.toInt x11 = x11.toInt) ((by decide) : Int32.toInt 30 = (30 : Int)) dX11_rows_36 (by decide) (fun c16 => ?_) (fun c16 => ?_)
          · refine lv_iload_n hx hb dX11_rows_78 rfl (lv_at hl 2 rfl) ?_
            refine xi_zne (tgt := 86) hx hb (rfl : Int32.toInt p1 = p1.toInt) dX11_rows_79 (by decide) (fun c17 => ?_) (fun c17 => ?_)
            · refine lv_iload hx hb dX11_rows_86 (lv_at hl 4 rfl) ?_
              exact x_ri hx hb hr hlk hQ (Nat.le_of_ble_eq_true rfl) (Nat.le_of_ble_eq_true rfl) hS dX11_rows_88 (0) ⟨_, rfl⟩ hT.nil
            · refine lv_iload_n hx hb dX11_rows_82 rfl (lv_at hl 3 rfl) ?_
              refine lv_goto (tgt := 88) hx hb dX11_rows_83 (by decide) ?_
              exact x_ri hx hb hr hlk hQ (Nat.le_of_ble_eq_true rfl) (Nat.le_of_ble_eq_true rfl) hS dX11_rows_88 (0) ⟨_, rfl⟩ hT.nil
          · refine lv_iload_n hx hb dX11_rows_39 rfl (lv_at hl 3 rfl) ?_
            refine lv_aload_n hx hb dX11_rows_40 rfl (lv_at hl 0 rfl) ?_
            refine gX11_1 S hK hT ha kf_X11_9 dX11_rows_41 (fun hk18 => ?_)
            refine lv_iload_n hx hb dX11_rows_44 rfl (lv_at hl 1 rfl) ?_
            refine lv_iload hx hb dX11_rows_45 (lv_at hl 5 rfl) ?_
            refine x_clp (x_runS (As := [.int p0, .int x11]) (rest := [.ref (F a 1), .int x9]) S (c_X11_at l E K F tl 0 z1 z2 z3 z4 z5 z6 z7 z8 z9 z10 z11 z12 z13 z14 z15 z16 z17 z18 z19 z20 ar0 ar1 ar2 ar3 ar4 ar5 ar6 ar7 ar8 ar9 ar10 H p0 x11) ms_X11_at km_X11_156 rfl rfl ⟨Nat.le_of_ble_eq_true rfl, Nat.le_of_ble_eq_true rfl⟩ hK (fun _ => XPh.blind) (fun U hU hW => XPh.at hK hz hS hT hU hW) rfl hl.1 (Nat.le_of_ble_eq_true rfl) dX11_rows_47 ⟨Nat.le_of_ble_eq_true rfl, Nat.le_of_ble_eq_true rfl⟩) hS ?_
            rintro _ _ locs ⟨x20, rfl, t19⟩ hS
            have t19 : 0 ≤ p0.toInt ∧ p0.toInt ≤ 2 ∧ 0 ≤ x11.toInt ∧ x11.toInt ≤ 29 → x20.toInt = 4 * (30 * p0.toInt + x11.toInt) := t19
            refine tld_0 S hK hT hk18 (at_30 (f := ar0) rfl) (by decide) (z_X11_rows_2 p0.toInt x11.toInt x2.toInt x20.toInt N12 t1 (xbz b3) c4 hf13 hm14 c16 t19 (xr p0) (xr x11) (xr x2) (xr x20)) dX11_rows_50 (fun x22 w23 o24 => ?_)
            refine xi_iadd hx hb (rfl : Int32.toInt x9 = x9.toInt) (rfl : Int32.toInt x22 = x22.toInt) dX11_rows_51 (fun x26 t27 => ?_)
            refine lv_istore_n (lv' := [(3, .int x26), (0, .ref a), (1, .int p0), (2, .int p1), (4, .int x10), (5, .int x11)]) hx hb dX11_rows_52 rfl hl (by decide) rfl (fun ls hl => ?_)
            refine lv_iload hx hb dX11_rows_53 (lv_at hl 4 rfl) ?_
            refine lv_aload_n hx hb dX11_rows_55 rfl (lv_at hl 1 rfl) ?_
            refine gX11_1 S hK hT ha kf_X11_9 dX11_rows_56 (fun hk28 => ?_)
            refine lv_iload_n hx hb dX11_rows_59 rfl (lv_at hl 2 rfl) ?_
            refine lv_iload hx hb dX11_rows_60 (lv_at hl 5 rfl) ?_
            refine x_clp (x_runS (As := [.int p0, .int x11]) (rest := [.ref (F a 1), .int x10]) S (c_X11_at l E K F tl 0 z1 z2 z3 z4 z5 z6 z7 z8 z9 z10 z11 z12 z13 z14 z15 z16 z17 z18 z19 z20 ar0 ar1 ar2 ar3 ar4 ar5 ar6 ar7 ar8 ar9 ar10 H p0 x11) ms_X11_at km_X11_156 rfl rfl ⟨Nat.le_of_ble_eq_true rfl, Nat.le_of_ble_eq_true rfl⟩ hK (fun _ => XPh.blind) (fun U hU hW => XPh.at hK hz hS hT hU hW) rfl hl.1 (Nat.le_of_ble_eq_true rfl) dX11_rows_62 ⟨Nat.le_of_ble_eq_true rfl, Nat.le_of_ble_eq_true rfl⟩) hS ?_
            rintro _ _ locs ⟨x30, rfl, t29⟩ hS
            have t29 : 0 ≤ p0.toInt ∧ p0.toInt ≤ 2 ∧ 0 ≤ x11.toInt ∧ x11.toInt ≤ 29 → x30.toInt = 4 * (30 * p0.toInt + x11.toInt) := t29
            refine tld_0 S hK hT hk28 (at_30 (f := ar0) rfl) (by decide) (z_X11_rows_3 p0.toInt x11.toInt x2.toInt x20.toInt x30.toInt N12 t1 (xbz b3) c4 hf13 hm14 c16 t19 t29 (xr p0) (xr x11) (xr x2) (xr x20) (xr x30)) dX11_rows_65 (fun x32 w33 o34 => ?_)
            refine lv_iload hx hb dX11_rows_66 (lv_at hl 5 rfl) ?_
            refine lv_ishl hx hb dX11_rows_68 (lv_topi (fun x36 _ => ?_))
            refine lv_ior hx hb dX11_rows_69 (lv_topi (fun x37 _ => ?_))
            refine lv_istore (lv' := [(4, .int x37), (3, .int x26), (0, .ref a), (1, .int p0), (2, .int p1), (5, .int x11)]) hx hb dX11_rows_70 hl (by decide) rfl (fun ls hl => ?_)
            refine xi_iinc (n := 1) (lv' := fun z9 => [(5, .int z9), (4, .int x37), (3, .int x26), (0, .ref a), (1, .int p0), (2, .int p1)]) (k := 5) hx hb (rfl : Int32.toInt x11 = x11.toInt) (by decide) dX11_rows_72 hl rfl (by decide) (fun _ => rfl) (fun x38 ls t39 hl => ?_)
            have hl : lv_has ls 6 [(5, .int x38), (4, .int x37), (3, .int x26), (0, .ref a), (1, .int p0), (2, .int p1)] := hl
            refine lv_goto (tgt := 32) hx hb dX11_rows_75 (by decide) ?_
            exact ih15 x26 x37 x38 _ _ _ (z_X11_rows_4 p0.toInt x11.toInt x2.toInt x20.toInt x30.toInt x38.toInt N12 t1 (xbz b3) c4 hf13 hm14 c16 t19 t29 t39 (xr p0) (xr x11) (xr x2) (xr x20) (xr x30) (xr x38)) (z_X11_rows_5 p0.toInt x11.toInt x2.toInt x20.toInt x30.toInt x38.toInt N12 t1 (xbz b3) c4 hf13 hm14 c16 t19 t29 t39 (xr p0) (xr x11) (xr x2) (xr x20) (xr x30) (xr x38)) hT.nil hS (lv_sub hl [3, 4, 5, 2, 1, 0] rfl)
      exact L32 4294967297 0 0 0 _ _ _ (by decide) (by decide) hT.nil hS (lv_sub hl [3, 4, 5, 2, 1, 0] rfl)
    · refine lv_iconst (v := (-1)) hx hb dX11_rows_22 (by decide) ?_
      exact x_ri hx hb hr hlk hQ (Nat.le_of_ble_eq_true rfl) (Nat.le_of_ble_eq_true rfl) hS dX11_rows_23 (0) ⟨_, rfl⟩ hT.nil

theorem z_X11_told_1 (a0 : Int) (a1 : Int) (a2 : Int) (h0 : a1 = 0 ∨ (a1 = 1 ∧ 0 ≤ a0 ∧ a0 ≤ 11 ∧ 0 ≤ a2)) (h1 : a1 = 0 ∨ a1 = 1) (h2 : ¬ (a1 = 0)) (r0 : -2147483648 ≤ a0 ∧ a0 < 2147483648) (r1 : -2147483648 ≤ a1 ∧ a1 < 2147483648) : 0 ≤ a0 ∧ a0 ≤ 11 := by omega
theorem z_X11_told_2 (a0 : Int) (a1 : Int) (h0 : (a1 = 1 ∧ (0 : Int) ≤ a0 ∧ a0 ≤ (9 : Int)) ∨ (a1 = 0 ∧ (a0 < (0 : Int) ∨ (9 : Int) < a0))) (h1 : a1 ≠ 0) (h2 : a0 ≠ (9 : Int)) (r0 : -2147483648 ≤ a0 ∧ a0 < 2147483648) (r1 : -2147483648 ≤ a1 ∧ a1 < 2147483648) : 0 ≤ a0 ∧ a0 ≤ 9 := by omega
theorem z_X11_told_3 (a0 : Int) (a1 : Int) (a2 : Int) (h0 : a1 = 0 ∨ (a1 = 1 ∧ 0 ≤ a0 ∧ a0 ≤ 11 ∧ 0 ≤ a2)) (h1 : a1 = 0 ∨ a1 = 1) (h2 : ¬ (a1 = 0)) (r0 : -2147483648 ≤ a0 ∧ a0 < 2147483648) (r1 : -2147483648 ≤ a1 ∧ a1 < 2147483648) : 0 ≤ a0 ∧ a0 ≤ 11 := by omega
abbrev rm_X11_told : Room := { frames := 6, cells := 0, slots := 0, locals := 145 }
set_option maxHeartbeats 4000000 in
set_option maxRecDepth 100000 in
theorem c_X11_told (l : Launch) (E : XE) (K : Nat → Nat) (F : Nat → Nat → Nat) (tl z0 z1 z2 z3 z4 z5 z6 z7 z8 z9 z10 z11 z12 z13 z14 z15 z16 z17 z18 z19 z20 : Int32) (ar0 ar1 ar2 ar3 ar4 ar5 ar6 ar7 ar8 ar9 ar10 : Nat → Int32) (a : Nat) (p0 : Int32) (p1 : Int32) (ha : K a = 13) (hR : RV ar1) : Met l yX11_told (xw yX11_told cX11_told 3 (some .int)) rm_X11_told (va_Pc [.ref a, .int p0, .int p1] (XP E K F (tl, [z0, z1, z2, z3, z4, z5, z6, z7, z8, z9, z10, z11, z12, z13, z14, z15, z16, z17, z18, z19, z20], [ar0, ar1, ar2, ar3, ar4, ar5, ar6, ar7, ar8, ar9, ar10]))) (XQ E (fun v (u : Int32 × Int32 × Int32 × (Nat → Int32) × (Nat → Int32) × (Nat → Int32)) => ∃ r : Int32, v = .int r) (fun u H => TW E K F (tl, [u.1, z1, z2, u.2.1, u.2.2.1, z5, z6, z7, z8, z9, z10, z11, z12, z13, z14, z15, z16, z17, z18, z19, z20], [ar0, ar1, u.2.2.2.1, u.2.2.2.2.1, u.2.2.2.2.2, ar5, ar6, ar7, ar8, ar9, ar10]) [] H)) 0 0 (xA E) := by
  refine x_enter (by decide) (Nat.le_of_ble_eq_true rfl) ?_
  intro p e s m args below meth c Q S hr hlk hnm hQ hP ls hl
  obtain ⟨hz, hK, hT⟩ := hP
  obtain ⟨hx, hb, -, -, -⟩ := id S
  obtain ⟨H, hT, hS, hgo⟩ : ∃ H : Heap, TW E K F (tl, [z0, z1, z2, z3, z4, z5, z6, z7, z8, z9, z10, z11, z12, z13, z14, z15, z16, z17, z18, z19, z20], [ar0, ar1, ar2, ar3, ar4, ar5, ar6, ar7, ar8, ar9, ar10]) [] H ∧ va_S (xA E) s.heap H [] ∧ H = s.heap := ⟨_, hT, va_S.rf, rfl⟩
  rw [← hgo]
  have hl : lv_has ls 3 [(0, .ref a), (1, .int p0), (2, .int p1)] := hl
  refine lv_aload_n hx hb dX11_told_0 rfl (lv_at hl 0 rfl) ?_
  refine lv_iconst (v := 0) hx hb dX11_told_1 (by decide) ?_
  refine pX11_0 (kq := []) (v := 0) S hK hT hS ha kf_X11_134 (Nat.le_of_ble_eq_true rfl) dX11_told_2 (fun _ h => by cases h) (fun H locs hT hS => ?_)
  have hT : TW E K F (tl, [0, z1, z2, z3, z4, z5, z6, z7, z8, z9, z10, z11, z12, z13, z14, z15, z16, z17, z18, z19, z20], [ar0, ar1, ar2, ar3, ar4, ar5, ar6, ar7, ar8, ar9, ar10]) [] H := hT
  refine lv_aload_n hx hb dX11_told_5 rfl (lv_at hl 0 rfl) ?_
  refine lv_iload_n hx hb dX11_told_6 rfl (lv_at hl 1 rfl) ?_
  refine x_clp (x_runV (b := a) (As := [.int p0]) (rest := []) S (c_X11_isRule l E K F tl 0 z1 z2 z3 z4 z5 z6 z7 z8 z9 z10 z11 z12 z13 z14 z15 z16 z17 z18 z19 z20 ar0 ar1 ar2 ar3 ar4 ar5 ar6 ar7 ar8 ar9 ar10 H a p0 ha hR) mv_X11_isRule km_X11_162 rfl rfl ⟨Nat.le_of_ble_eq_true rfl, Nat.le_of_ble_eq_true rfl⟩ (rc_13 hK hT ha) hK (fun _ => XPh.blind) (fun U hU hW => XPh.at hK hz hS hT hU hW) rfl hl.1 (Nat.le_of_ble_eq_true rfl) dX11_told_7 ⟨Nat.le_of_ble_eq_true rfl, Nat.le_of_ble_eq_true rfl⟩) hS ?_
  rintro _ _ locs ⟨x2, rfl, b3, t1⟩ hS
  have t1 : x2.toInt = 0 ∨ (x2.toInt = 1 ∧ 0 ≤ p0.toInt ∧ p0.toInt ≤ 11 ∧ 0 ≤ (aI ar1 (10 * p0.toInt + (0 : Int)))) := t1
  have J25 : ∀ (H : Heap) (locs : List Loc) (ls : Array Slot), TW E K F (tl, [0, z1, z2, z3, z4, z5, z6, z7, z8, z9, z10, z11, z12, z13, z14, z15, z16, z17, z18, z19, z20], [ar0, ar1, ar2, ar3, ar4, ar5, ar6, ar7, ar8, ar9, ar10]) [] H → va_S (xA E) s.heap H locs → lv_has ls 3 [] → W p l e rm_X11_told s m args below meth c H locs 0 0 Q (F0 m 25 ls []) := by
    intro H locs ls hT hS hl
    refine lv_ldc (v := (-2147483648)) hx hb S.2.2.2.1 (S.2.2.2.2 _ (List.mem_cons_of_mem _ kc_X11_57)) dX11_told_25 ?_
    refine lv_goto (tgt := 50) hx hb dX11_told_27 (by decide) ?_
    exact x_ri hx hb hr hlk hQ (Nat.le_of_ble_eq_true rfl) (Nat.le_of_ble_eq_true rfl) hS dX11_told_50 (0, z3, z4, ar2, ar3, ar4) ⟨_, rfl⟩ hT.nil
  refine xi_zeq (tgt := 25) hx hb (rfl : Int32.toInt x2 = x2.toInt) dX11_told_10 (by decide) (fun c4 => ?_) (fun c4 => ?_)
  · exact J25 _ _ _ hT.nil hS (lv_sub hl [] rfl)
  · refine lv_iload_n hx hb dX11_told_13 rfl (lv_at hl 2 rfl) ?_
    refine lv_i2l (v := p1.toInt64) hx hb dX11_told_14 rfl ?_
    refine lv_lconst (v := (0 : Int64)) hx hb dX11_told_15 (by decide) ?_
    refine lv_ldc2 (v := 9) hx hb S.2.2.2.1 (S.2.2.2.2 _ (List.mem_cons_of_mem _ kc_X11_385)) dX11_told_16 ?_
    refine x_clp (x_runS (As := [.long p1.toInt64, .long (0 : Int64), .long (9 : Int64)]) (rest := []) S (c_X11_in l E K F tl 0 z1 z2 z3 z4 z5 z6 z7 z8 z9 z10 z11 z12 z13 z14 z15 z16 z17 z18 z19 z20 ar0 ar1 ar2 ar3 ar4 ar5 ar6 ar7 ar8 ar9 ar10 H p1.toInt64 (0 : Int64) (9 : Int64) p1.toInt (0 : Int) (9 : Int) (xl_i2l (rfl : Int32.toInt p1 = p1.toInt)) (by decide) (by decide)) ms_X11_in km_X11_139 rfl rfl ⟨Nat.le_of_ble_eq_true rfl, Nat.le_of_ble_eq_true rfl⟩ hK (fun _ => XPh.blind) (fun U hU hW => XPh.at hK hz hS hT hU hW) rfl hl.1 (Nat.le_of_ble_eq_true rfl) dX11_told_19 ⟨Nat.le_of_ble_eq_true rfl, Nat.le_of_ble_eq_true rfl⟩) hS ?_
    rintro _ _ locs ⟨x5, rfl, b6, t7⟩ hS
    have t7 : (x5.toInt = 1 ∧ (0 : Int) ≤ p1.toInt ∧ p1.toInt ≤ (9 : Int)) ∨ (x5.toInt = 0 ∧ (p1.toInt < (0 : Int) ∨ (9 : Int) < p1.toInt)) := t7
    refine xi_zne (tgt := 30) hx hb (rfl : Int32.toInt x5 = x5.toInt) dX11_told_22 (by decide) (fun c8 => ?_) (fun c8 => ?_)
    · refine lv_iload_n hx hb dX11_told_30 rfl (lv_at hl 2 rfl) ?_
      refine lv_bipush (v := 9) hx hb dX11_told_31 (by decide) ?_
      refine xi_cne (tgt := 44) hx hb (rfl : Int32.toInt p1 = p1.toInt) ((by decide) : Int32.toInt 9 = (9 : Int)) dX11_told_33 (by decide) (fun c9 => ?_) (fun c9 => ?_)
      · refine lv_aload_n hx hb dX11_told_44 rfl (lv_at hl 0 rfl) ?_
        refine lv_iload_n hx hb dX11_told_45 rfl (lv_at hl 1 rfl) ?_
        refine lv_iload_n hx hb dX11_told_46 rfl (lv_at hl 2 rfl) ?_
        refine x_clp (x_runV (b := a) (As := [.int p0, .int p1]) (rest := []) S (c_X11_of l E K F tl 0 z1 z2 z3 z4 z5 z6 z7 z8 z9 z10 z11 z12 z13 z14 z15 z16 z17 z18 z19 z20 ar0 ar1 ar2 ar3 ar4 ar5 ar6 ar7 ar8 ar9 ar10 H a p0 p1 ha (z_X11_told_1 p0.toInt x2.toInt (aI ar1 (10 * p0.toInt + (0 : Int))) t1 (xbz b3) c4 (xr p0) (xr x2)) (z_X11_told_2 p1.toInt x5.toInt t7 c8 c9 (xr p1) (xr x5))) mv_X11_of km_X11_165 rfl rfl ⟨Nat.le_of_ble_eq_true rfl, Nat.le_of_ble_eq_true rfl⟩ (rc_13 hK hT ha) hK (fun _ => XPh.blind) (fun U hU hW => XPh.at hK hz hS hT hU hW) rfl hl.1 (Nat.le_of_ble_eq_true rfl) dX11_told_47 ⟨Nat.le_of_ble_eq_true rfl, Nat.le_of_ble_eq_true rfl⟩) hS ?_
        rintro _ _ locs ⟨x11, rfl, t10⟩ hS
        have t10 : x11.toInt = (aI ar1 (10 * p0.toInt + p1.toInt)) := t10
        have v13 : (-1 ≤ (aI ar1 (10 * p0.toInt + (0 : Int))) ∧ (aI ar1 (10 * p0.toInt + (0 : Int))) ≤ 5) ∧ (0 ≤ (aI ar1 (10 * p0.toInt + (1 : Int))) ∧ (aI ar1 (10 * p0.toInt + (1 : Int))) ≤ 2) ∧ (0 ≤ (aI ar1 (10 * p0.toInt + (2 : Int))) ∧ (aI ar1 (10 * p0.toInt + (2 : Int))) ≤ 2) ∧ (-1 ≤ (aI ar1 (10 * p0.toInt + (3 : Int))) ∧ (aI ar1 (10 * p0.toInt + (3 : Int))) ≤ 2) ∧ ((aI ar1 (10 * p0.toInt + (0 : Int))) = 1 ∨ (aI ar1 (10 * p0.toInt + (0 : Int))) = 3 ∨ (aI ar1 (10 * p0.toInt + (0 : Int))) = 4 → 0 ≤ (aI ar1 (10 * p0.toInt + (3 : Int)))) := RV.row hR (z_X11_told_3 p0.toInt x2.toInt (aI ar1 (10 * p0.toInt + (0 : Int))) t1 (xbz b3) c4 (xr p0) (xr x2))
        exact x_ri hx hb hr hlk hQ (Nat.le_of_ble_eq_true rfl) (Nat.le_of_ble_eq_true rfl) hS dX11_told_50 (0, z3, z4, ar2, ar3, ar4) ⟨_, rfl⟩ hT.nil
      · refine lv_aload_n hx hb dX11_told_36 rfl (lv_at hl 0 rfl) ?_
        refine lv_iload_n hx hb dX11_told_37 rfl (lv_at hl 1 rfl) ?_
        refine x_cl0 (x_runV (b := a) (As := [.int p0]) (rest := []) S (c_X11_inQueue l E K F tl 0 z1 z2 z3 z4 z5 z6 z7 z8 z9 z10 z11 z12 z13 z14 z15 z16 z17 z18 z19 z20 ar0 ar1 ar2 ar3 ar4 ar5 ar6 ar7 ar8 ar9 ar10 a p0 ha hR) mv_X11_inQueue km_X11_306 rfl rfl ⟨Nat.le_of_ble_eq_true rfl, Nat.le_of_ble_eq_true rfl⟩ (rc_13 hK hT ha) hK (fun _ => XP.blind) (fun U hU hW => XP.at hK hz hS hT hU hW) rfl hl.1 (Nat.le_of_ble_eq_true rfl) dX11_told_38 ⟨Nat.le_of_ble_eq_true rfl, Nat.le_of_ble_eq_true rfl⟩) hS ?_
        rintro _ ⟨u14, u15, f16, f17, f18⟩ H locs ⟨x20, rfl, t19⟩ hT hS
        have hT : TW E K F (tl, [0, z1, z2, u14, u15, z5, z6, z7, z8, z9, z10, z11, z12, z13, z14, z15, z16, z17, z18, z19, z20], [ar0, ar1, f16, f17, f18, ar5, ar6, ar7, ar8, ar9, ar10]) [] H := hT
        have t19 : 0 ≤ u15.toInt ∧ u15.toInt ≤ 2388 ∧ u15.toInt ≤ (((fV ar1 f17 f18) : Nat) : Int) := t19
        refine lv_goto (tgt := 50) hx hb dX11_told_41 (by decide) ?_
        exact x_ri hx hb hr hlk hQ (Nat.le_of_ble_eq_true rfl) (Nat.le_of_ble_eq_true rfl) hS dX11_told_50 (0, u14, u15, f16, f17, f18) ⟨_, rfl⟩ hT.nil
    · exact J25 _ _ _ hT.nil hS (lv_sub hl [] rfl)

theorem z_X11_queue_1 (a0 : Int) (a1 : Nat) (h0 : 0 ≤ a0 ∧ a0 ≤ 2388 ∧ a0 ≤ ((a1 : Nat) : Int)) (r0 : -2147483648 ≤ a0 ∧ a0 < 2147483648) : -2147483648 ≤ a0 ∧ a0 < 2147483648 := by omega
theorem z_X11_queue_2 (a0 : Int) (a1 : Int) (a2 : Int) (a3 : Int) (a4 : Nat) (h0 : 0 ≤ a1 ∧ a1 ≤ 2388 ∧ a1 ≤ ((a4 : Nat) : Int)) (h1 : (a2 = 1 ∧ (0 : Int) ≤ a0 ∧ a0 ≤ (a1 - (1 : Int))) ∨ (a2 = 0 ∧ (a0 < (0 : Int) ∨ (a1 - (1 : Int)) < a0))) (h2 : (a3 = 0 ∨ a3 = 1) ∧ (a3 = 0 → 0 ≤ a0 ∧ a0 < a1)) (h3 : a3 ≠ (1 : Int)) (r0 : -2147483648 ≤ a0 ∧ a0 < 2147483648) (r1 : -2147483648 ≤ a1 ∧ a1 < 2147483648) (r2 : -2147483648 ≤ a2 ∧ a2 < 2147483648) (r3 : -2147483648 ≤ a3 ∧ a3 < 2147483648) : 0 ≤ a0 ∧ a0 < ((2400 : Nat) : Int) := by omega
theorem z_X11_queue_3 (a0 : Int) (a1 : Int) (a2 : Int) (a3 : Int) (a4 : Nat) (h0 : 0 ≤ a1 ∧ a1 ≤ 2388 ∧ a1 ≤ ((a4 : Nat) : Int)) (h1 : (a2 = 1 ∧ (0 : Int) ≤ a0 ∧ a0 ≤ (a1 - (1 : Int))) ∨ (a2 = 0 ∧ (a0 < (0 : Int) ∨ (a1 - (1 : Int)) < a0))) (h2 : (a3 = 0 ∨ a3 = 1) ∧ (a3 = 0 → 0 ≤ a0 ∧ a0 < a1)) (h3 : a3 ≠ (1 : Int)) (r0 : -2147483648 ≤ a0 ∧ a0 < 2147483648) (r1 : -2147483648 ≤ a1 ∧ a1 < 2147483648) (r2 : -2147483648 ≤ a2 ∧ a2 < 2147483648) (r3 : -2147483648 ≤ a3 ∧ a3 < 2147483648) : 0 ≤ a0 ∧ a0 < ((a4 : Nat) : Int) := by omega
theorem z_X11_queue_4 (a0 : Int) (a1 : Int) (a2 : Int) (h0 : a0 = a2) (h1 : 0 ≤ a0 ∧ a0 ≤ 11 ∧ 0 ≤ a1) (r0 : -2147483648 ≤ a0 ∧ a0 < 2147483648) : 0 ≤ a0 ∧ a0 ≤ 11 := by omega
theorem z_X11_queue_5 (a0 : Int) (a1 : Int) (a2 : Int) (a3 : Int) (a4 : Nat) (h0 : 0 ≤ a1 ∧ a1 ≤ 2388 ∧ a1 ≤ ((a4 : Nat) : Int)) (h1 : (a2 = 1 ∧ (0 : Int) ≤ a0 ∧ a0 ≤ (a1 - (1 : Int))) ∨ (a2 = 0 ∧ (a0 < (0 : Int) ∨ (a1 - (1 : Int)) < a0))) (h2 : (a3 = 0 ∨ a3 = 1) ∧ (a3 = 0 → 0 ≤ a0 ∧ a0 < a1)) (h3 : a3 ≠ (1 : Int)) (r0 : -2147483648 ≤ a0 ∧ a0 < 2147483648) (r1 : -2147483648 ≤ a1 ∧ a1 < 2147483648) (r2 : -2147483648 ≤ a2 ∧ a2 < 2147483648) (r3 : -2147483648 ≤ a3 ∧ a3 < 2147483648) : 0 ≤ a0 ∧ a0 < ((2400 : Nat) : Int) := by omega
theorem z_X11_queue_6 (a0 : Int) (a1 : Int) (a2 : Int) (a3 : Int) (a4 : Nat) (h0 : 0 ≤ a1 ∧ a1 ≤ 2388 ∧ a1 ≤ ((a4 : Nat) : Int)) (h1 : (a2 = 1 ∧ (0 : Int) ≤ a0 ∧ a0 ≤ (a1 - (1 : Int))) ∨ (a2 = 0 ∧ (a0 < (0 : Int) ∨ (a1 - (1 : Int)) < a0))) (h2 : (a3 = 0 ∨ a3 = 1) ∧ (a3 = 0 → 0 ≤ a0 ∧ a0 < a1)) (h3 : a3 ≠ (1 : Int)) (r0 : -2147483648 ≤ a0 ∧ a0 < 2147483648) (r1 : -2147483648 ≤ a1 ∧ a1 < 2147483648) (r2 : -2147483648 ≤ a2 ∧ a2 < 2147483648) (r3 : -2147483648 ≤ a3 ∧ a3 < 2147483648) : 0 ≤ a0 ∧ a0 < ((a4 : Nat) : Int) := by omega
theorem z_X11_queue_7 (a0 : Int) (r0 : -2147483648 ≤ a0 ∧ a0 < 2147483648) : (a0 < 0 ∨ 4 < a0) ∨ (a0 = 0) ∨ (a0 = 1) ∨ (a0 = 2) ∨ (a0 = 3) ∨ (a0 = 4) := by omega
theorem z_X11_queue_8 (a0 : Int) (a1 : Int) (a2 : Int) (a3 : Int) (a4 : Nat) (h0 : 0 ≤ a1 ∧ a1 ≤ 2388 ∧ a1 ≤ ((a4 : Nat) : Int)) (h1 : (a2 = 1 ∧ (0 : Int) ≤ a0 ∧ a0 ≤ (a1 - (1 : Int))) ∨ (a2 = 0 ∧ (a0 < (0 : Int) ∨ (a1 - (1 : Int)) < a0))) (h2 : (a3 = 0 ∨ a3 = 1) ∧ (a3 = 0 → 0 ≤ a0 ∧ a0 < a1)) (h3 : a3 ≠ (1 : Int)) (r0 : -2147483648 ≤ a0 ∧ a0 < 2147483648) (r1 : -2147483648 ≤ a1 ∧ a1 < 2147483648) (r2 : -2147483648 ≤ a2 ∧ a2 < 2147483648) (r3 : -2147483648 ≤ a3 ∧ a3 < 2147483648) : 0 ≤ a0 ∧ a0 < ((2400 : Nat) : Int) := by omega
theorem z_X11_queue_9 (a0 : Int) (a1 : Int) (a2 : Int) (a3 : Int) (a4 : Nat) (h0 : 0 ≤ a1 ∧ a1 ≤ 2388 ∧ a1 ≤ ((a4 : Nat) : Int)) (h1 : (a2 = 1 ∧ (0 : Int) ≤ a0 ∧ a0 ≤ (a1 - (1 : Int))) ∨ (a2 = 0 ∧ (a0 < (0 : Int) ∨ (a1 - (1 : Int)) < a0))) (h2 : (a3 = 0 ∨ a3 = 1) ∧ (a3 = 0 → 0 ≤ a0 ∧ a0 < a1)) (h3 : a3 ≠ (1 : Int)) (r0 : -2147483648 ≤ a0 ∧ a0 < 2147483648) (r1 : -2147483648 ≤ a1 ∧ a1 < 2147483648) (r2 : -2147483648 ≤ a2 ∧ a2 < 2147483648) (r3 : -2147483648 ≤ a3 ∧ a3 < 2147483648) : 0 ≤ a0 ∧ a0 < ((a4 : Nat) : Int) := by omega
theorem z_X11_queue_10 (a0 : Int) (a1 : Int) (a2 : Int) (a3 : Int) (a4 : Int) (a5 : Int) (a6 : Int) (a7 : Int) (a8 : Int) (a9 : Int) (a10 : Int) (h0 : a0 = a9) (h1 : 0 ≤ a0 ∧ a0 ≤ 11 ∧ 0 ≤ a4) (h2 : (-1 ≤ a4 ∧ a4 ≤ 5) ∧ (0 ≤ a5 ∧ a5 ≤ 2) ∧ (0 ≤ a6 ∧ a6 ≤ 2) ∧ (-1 ≤ a7 ∧ a7 ≤ 2) ∧ (a4 = 1 ∨ a4 = 3 ∨ a4 = 4 → 0 ≤ a7)) (h3 : a1 = a10) (h4 : -99 ≤ a1 ∧ a1 ≤ 99 ∧ (a4 = 2 ∨ a4 = 4 ∨ a4 = 5 → 0 ≤ a1 ∧ a1 ≤ 29)) (h5 : 0 ≤ a0 ∧ a0 ≤ 11 ∧ -99 ≤ a1 ∧ a1 ≤ 99 → a2 = 199 * a0 + a1 + 99) (h6 : a3 = a9) (h7 : 0 ≤ a3 ∧ a3 ≤ 11 ∧ 0 ≤ a8) (r0 : -2147483648 ≤ a0 ∧ a0 < 2147483648) (r1 : -2147483648 ≤ a1 ∧ a1 < 2147483648) (r2 : -2147483648 ≤ a2 ∧ a2 < 2147483648) (r3 : -2147483648 ≤ a3 ∧ a3 < 2147483648) : 0 ≤ a3 ∧ a3 ≤ 11 := by omega
theorem z_X11_queue_11 (a0 : Int) (a1 : Int) (a2 : Int) (a3 : Int) (a4 : Nat) (h0 : 0 ≤ a1 ∧ a1 ≤ 2388 ∧ a1 ≤ ((a4 : Nat) : Int)) (h1 : (a2 = 1 ∧ (0 : Int) ≤ a0 ∧ a0 ≤ (a1 - (1 : Int))) ∨ (a2 = 0 ∧ (a0 < (0 : Int) ∨ (a1 - (1 : Int)) < a0))) (h2 : (a3 = 0 ∨ a3 = 1) ∧ (a3 = 0 → 0 ≤ a0 ∧ a0 < a1)) (h3 : a3 ≠ (1 : Int)) (r0 : -2147483648 ≤ a0 ∧ a0 < 2147483648) (r1 : -2147483648 ≤ a1 ∧ a1 < 2147483648) (r2 : -2147483648 ≤ a2 ∧ a2 < 2147483648) (r3 : -2147483648 ≤ a3 ∧ a3 < 2147483648) : 0 ≤ a0 ∧ a0 < ((2400 : Nat) : Int) := by omega
theorem z_X11_queue_12 (a0 : Int) (a1 : Int) (a2 : Int) (a3 : Int) (a4 : Nat) (h0 : 0 ≤ a1 ∧ a1 ≤ 2388 ∧ a1 ≤ ((a4 : Nat) : Int)) (h1 : (a2 = 1 ∧ (0 : Int) ≤ a0 ∧ a0 ≤ (a1 - (1 : Int))) ∨ (a2 = 0 ∧ (a0 < (0 : Int) ∨ (a1 - (1 : Int)) < a0))) (h2 : (a3 = 0 ∨ a3 = 1) ∧ (a3 = 0 → 0 ≤ a0 ∧ a0 < a1)) (h3 : a3 ≠ (1 : Int)) (r0 : -2147483648 ≤ a0 ∧ a0 < 2147483648) (r1 : -2147483648 ≤ a1 ∧ a1 < 2147483648) (r2 : -2147483648 ≤ a2 ∧ a2 < 2147483648) (r3 : -2147483648 ≤ a3 ∧ a3 < 2147483648) : 0 ≤ a0 ∧ a0 < ((a4 : Nat) : Int) := by omega
theorem z_X11_queue_13 (a0 : Int) (a1 : Int) (a2 : Int) (a3 : Int) (a4 : Int) (a5 : Int) (a6 : Int) (a7 : Int) (a8 : Int) (h0 : a0 = a7) (h1 : 0 ≤ a0 ∧ a0 ≤ 11 ∧ 0 ≤ a3) (h2 : (-1 ≤ a3 ∧ a3 ≤ 5) ∧ (0 ≤ a4 ∧ a4 ≤ 2) ∧ (0 ≤ a5 ∧ a5 ≤ 2) ∧ (-1 ≤ a6 ∧ a6 ≤ 2) ∧ (a3 = 1 ∨ a3 = 3 ∨ a3 = 4 → 0 ≤ a6)) (h3 : a1 = a8) (h4 : -99 ≤ a1 ∧ a1 ≤ 99 ∧ (a3 = 2 ∨ a3 = 4 ∨ a3 = 5 → 0 ≤ a1 ∧ a1 ≤ 29)) (h5 : 0 ≤ a0 ∧ a0 ≤ 11 ∧ -99 ≤ a1 ∧ a1 ≤ 99 → a2 = 199 * a0 + a1 + 99) (r0 : -2147483648 ≤ a0 ∧ a0 < 2147483648) (r1 : -2147483648 ≤ a1 ∧ a1 < 2147483648) (r2 : -2147483648 ≤ a2 ∧ a2 < 2147483648) : 0 ≤ a2 ∧ a2 < ((2388 : Nat) : Int) := by omega
theorem z_X11_queue_14 (a0 : Int) (a1 : Int) (a2 : Int) (a3 : Int) (a4 : Int) (a5 : Int) (a6 : Int) (a7 : Int) (a8 : Int) (h0 : a0 = a7) (h1 : 0 ≤ a0 ∧ a0 ≤ 11 ∧ 0 ≤ a3) (h2 : (-1 ≤ a3 ∧ a3 ≤ 5) ∧ (0 ≤ a4 ∧ a4 ≤ 2) ∧ (0 ≤ a5 ∧ a5 ≤ 2) ∧ (-1 ≤ a6 ∧ a6 ≤ 2) ∧ (a3 = 1 ∨ a3 = 3 ∨ a3 = 4 → 0 ≤ a6)) (h3 : a1 = a8) (h4 : -99 ≤ a1 ∧ a1 ≤ 99 ∧ (a3 = 2 ∨ a3 = 4 ∨ a3 = 5 → 0 ≤ a1 ∧ a1 ≤ 29)) (h5 : 0 ≤ a0 ∧ a0 ≤ 11 ∧ -99 ≤ a1 ∧ a1 ≤ 99 → a2 = 199 * a0 + a1 + 99) (r0 : -2147483648 ≤ a0 ∧ a0 < 2147483648) (r1 : -2147483648 ≤ a1 ∧ a1 < 2147483648) (r2 : -2147483648 ≤ a2 ∧ a2 < 2147483648) : 0 ≤ a2 ∧ a2 < ((2388 : Nat) : Int) := by omega
theorem z_X11_queue_15 (a0 : Int) (a1 : Int) (a2 : Int) (a3 : Int) (a4 : Nat) (h0 : 0 ≤ a1 ∧ a1 ≤ 2388 ∧ a1 ≤ ((a4 : Nat) : Int)) (h1 : (a2 = 1 ∧ (0 : Int) ≤ a0 ∧ a0 ≤ (a1 - (1 : Int))) ∨ (a2 = 0 ∧ (a0 < (0 : Int) ∨ (a1 - (1 : Int)) < a0))) (h2 : (a3 = 0 ∨ a3 = 1) ∧ (a3 = 0 → 0 ≤ a0 ∧ a0 < a1)) (h3 : a3 ≠ (1 : Int)) (r0 : -2147483648 ≤ a0 ∧ a0 < 2147483648) (r1 : -2147483648 ≤ a1 ∧ a1 < 2147483648) (r2 : -2147483648 ≤ a2 ∧ a2 < 2147483648) (r3 : -2147483648 ≤ a3 ∧ a3 < 2147483648) : 0 ≤ a0 ∧ a0 < ((2400 : Nat) : Int) := by omega
theorem z_X11_queue_16 (a0 : Int) (a1 : Int) (a2 : Int) (a3 : Int) (a4 : Nat) (h0 : 0 ≤ a1 ∧ a1 ≤ 2388 ∧ a1 ≤ ((a4 : Nat) : Int)) (h1 : (a2 = 1 ∧ (0 : Int) ≤ a0 ∧ a0 ≤ (a1 - (1 : Int))) ∨ (a2 = 0 ∧ (a0 < (0 : Int) ∨ (a1 - (1 : Int)) < a0))) (h2 : (a3 = 0 ∨ a3 = 1) ∧ (a3 = 0 → 0 ≤ a0 ∧ a0 < a1)) (h3 : a3 ≠ (1 : Int)) (r0 : -2147483648 ≤ a0 ∧ a0 < 2147483648) (r1 : -2147483648 ≤ a1 ∧ a1 < 2147483648) (r2 : -2147483648 ≤ a2 ∧ a2 < 2147483648) (r3 : -2147483648 ≤ a3 ∧ a3 < 2147483648) : 0 ≤ a0 ∧ a0 < ((a4 : Nat) : Int) := by omega
theorem z_X11_queue_17 (a0 : Int) (a1 : Int) (a2 : Int) (a3 : Int) (a4 : Int) (a5 : Int) (a6 : Int) (a7 : Int) (a8 : Int) (a9 : Int) (a10 : Int) (h0 : a0 = a9) (h1 : 0 ≤ a0 ∧ a0 ≤ 11 ∧ 0 ≤ a4) (h2 : (-1 ≤ a4 ∧ a4 ≤ 5) ∧ (0 ≤ a5 ∧ a5 ≤ 2) ∧ (0 ≤ a6 ∧ a6 ≤ 2) ∧ (-1 ≤ a7 ∧ a7 ≤ 2) ∧ (a4 = 1 ∨ a4 = 3 ∨ a4 = 4 → 0 ≤ a7)) (h3 : a1 = a10) (h4 : -99 ≤ a1 ∧ a1 ≤ 99 ∧ (a4 = 2 ∨ a4 = 4 ∨ a4 = 5 → 0 ≤ a1 ∧ a1 ≤ 29)) (h5 : 0 ≤ a0 ∧ a0 ≤ 11 ∧ -99 ≤ a1 ∧ a1 ≤ 99 → a2 = 199 * a0 + a1 + 99) (h6 : a3 = a9) (h7 : 0 ≤ a3 ∧ a3 ≤ 11 ∧ 0 ≤ a8) (r0 : -2147483648 ≤ a0 ∧ a0 < 2147483648) (r1 : -2147483648 ≤ a1 ∧ a1 < 2147483648) (r2 : -2147483648 ≤ a2 ∧ a2 < 2147483648) (r3 : -2147483648 ≤ a3 ∧ a3 < 2147483648) : 0 ≤ a3 ∧ a3 ≤ 11 := by omega
theorem z_X11_queue_18 (a0 : Int) (a1 : Int) (a2 : Int) (a3 : Int) (a4 : Nat) (h0 : 0 ≤ a1 ∧ a1 ≤ 2388 ∧ a1 ≤ ((a4 : Nat) : Int)) (h1 : (a2 = 1 ∧ (0 : Int) ≤ a0 ∧ a0 ≤ (a1 - (1 : Int))) ∨ (a2 = 0 ∧ (a0 < (0 : Int) ∨ (a1 - (1 : Int)) < a0))) (h2 : (a3 = 0 ∨ a3 = 1) ∧ (a3 = 0 → 0 ≤ a0 ∧ a0 < a1)) (h3 : a3 ≠ (1 : Int)) (r0 : -2147483648 ≤ a0 ∧ a0 < 2147483648) (r1 : -2147483648 ≤ a1 ∧ a1 < 2147483648) (r2 : -2147483648 ≤ a2 ∧ a2 < 2147483648) (r3 : -2147483648 ≤ a3 ∧ a3 < 2147483648) : 0 ≤ a0 ∧ a0 < ((2400 : Nat) : Int) := by omega
theorem z_X11_queue_19 (a0 : Int) (a1 : Int) (a2 : Int) (a3 : Int) (a4 : Nat) (h0 : 0 ≤ a1 ∧ a1 ≤ 2388 ∧ a1 ≤ ((a4 : Nat) : Int)) (h1 : (a2 = 1 ∧ (0 : Int) ≤ a0 ∧ a0 ≤ (a1 - (1 : Int))) ∨ (a2 = 0 ∧ (a0 < (0 : Int) ∨ (a1 - (1 : Int)) < a0))) (h2 : (a3 = 0 ∨ a3 = 1) ∧ (a3 = 0 → 0 ≤ a0 ∧ a0 < a1)) (h3 : a3 ≠ (1 : Int)) (r0 : -2147483648 ≤ a0 ∧ a0 < 2147483648) (r1 : -2147483648 ≤ a1 ∧ a1 < 2147483648) (r2 : -2147483648 ≤ a2 ∧ a2 < 2147483648) (r3 : -2147483648 ≤ a3 ∧ a3 < 2147483648) : 0 ≤ a0 ∧ a0 < ((a4 : Nat) : Int) := by omega
theorem z_X11_queue_20 (a0 : Int) (a1 : Int) (a2 : Int) (a3 : Int) (a4 : Int) (a5 : Int) (a6 : Int) (a7 : Int) (a8 : Int) (a9 : Int) (a10 : Int) (a11 : Int) (a12 : Int) (a13 : Int) (a14 : Int) (h0 : a0 = a13) (h1 : 0 ≤ a0 ∧ a0 ≤ 11 ∧ 0 ≤ a5) (h2 : (-1 ≤ a5 ∧ a5 ≤ 5) ∧ (0 ≤ a6 ∧ a6 ≤ 2) ∧ (0 ≤ a7 ∧ a7 ≤ 2) ∧ (-1 ≤ a8 ∧ a8 ≤ 2) ∧ (a5 = 1 ∨ a5 = 3 ∨ a5 = 4 → 0 ≤ a8)) (h3 : a1 = a14) (h4 : -99 ≤ a1 ∧ a1 ≤ 99 ∧ (a5 = 2 ∨ a5 = 4 ∨ a5 = 5 → 0 ≤ a1 ∧ a1 ≤ 29)) (h5 : 0 ≤ a0 ∧ a0 ≤ 11 ∧ -99 ≤ a1 ∧ a1 ≤ 99 → a2 = 199 * a0 + a1 + 99) (h6 : a3 = a13) (h7 : 0 ≤ a3 ∧ a3 ≤ 11 ∧ 0 ≤ a9) (h8 : (-1 ≤ a9 ∧ a9 ≤ 5) ∧ (0 ≤ a10 ∧ a10 ≤ 2) ∧ (0 ≤ a11 ∧ a11 ≤ 2) ∧ (-1 ≤ a12 ∧ a12 ≤ 2) ∧ (a9 = 1 ∨ a9 = 3 ∨ a9 = 4 → 0 ≤ a12)) (h9 : a4 = a14) (h10 : -99 ≤ a4 ∧ a4 ≤ 99 ∧ (a9 = 2 ∨ a9 = 4 ∨ a9 = 5 → 0 ≤ a4 ∧ a4 ≤ 29)) (r0 : -2147483648 ≤ a0 ∧ a0 < 2147483648) (r1 : -2147483648 ≤ a1 ∧ a1 < 2147483648) (r2 : -2147483648 ≤ a2 ∧ a2 < 2147483648) (r3 : -2147483648 ≤ a3 ∧ a3 < 2147483648) (r4 : -2147483648 ≤ a4 ∧ a4 < 2147483648) : 0 ≤ a3 ∧ a3 ≤ 11 := by omega
theorem z_X11_queue_21 (a0 : Int) (a1 : Int) (a2 : Int) (a3 : Int) (a4 : Int) (a5 : Int) (a6 : Int) (a7 : Int) (a8 : Int) (a9 : Int) (a10 : Int) (a11 : Int) (a12 : Int) (a13 : Int) (a14 : Int) (h0 : a0 = a13) (h1 : 0 ≤ a0 ∧ a0 ≤ 11 ∧ 0 ≤ a5) (h2 : (-1 ≤ a5 ∧ a5 ≤ 5) ∧ (0 ≤ a6 ∧ a6 ≤ 2) ∧ (0 ≤ a7 ∧ a7 ≤ 2) ∧ (-1 ≤ a8 ∧ a8 ≤ 2) ∧ (a5 = 1 ∨ a5 = 3 ∨ a5 = 4 → 0 ≤ a8)) (h3 : a1 = a14) (h4 : -99 ≤ a1 ∧ a1 ≤ 99 ∧ (a5 = 2 ∨ a5 = 4 ∨ a5 = 5 → 0 ≤ a1 ∧ a1 ≤ 29)) (h5 : 0 ≤ a0 ∧ a0 ≤ 11 ∧ -99 ≤ a1 ∧ a1 ≤ 99 → a2 = 199 * a0 + a1 + 99) (h6 : a3 = a13) (h7 : 0 ≤ a3 ∧ a3 ≤ 11 ∧ 0 ≤ a9) (h8 : (-1 ≤ a9 ∧ a9 ≤ 5) ∧ (0 ≤ a10 ∧ a10 ≤ 2) ∧ (0 ≤ a11 ∧ a11 ≤ 2) ∧ (-1 ≤ a12 ∧ a12 ≤ 2) ∧ (a9 = 1 ∨ a9 = 3 ∨ a9 = 4 → 0 ≤ a12)) (h9 : a4 = a14) (h10 : -99 ≤ a4 ∧ a4 ≤ 99 ∧ (a9 = 2 ∨ a9 = 4 ∨ a9 = 5 → 0 ≤ a4 ∧ a4 ≤ 29)) (r0 : -2147483648 ≤ a0 ∧ a0 < 2147483648) (r1 : -2147483648 ≤ a1 ∧ a1 < 2147483648) (r2 : -2147483648 ≤ a2 ∧ a2 < 2147483648) (r3 : -2147483648 ≤ a3 ∧ a3 < 2147483648) (r4 : -2147483648 ≤ a4 ∧ a4 < 2147483648) : 0 ≤ a9 := by omega
theorem z_X11_queue_22 (a0 : Int) (a1 : Int) (a2 : Int) (a3 : Int) (a4 : Int) (a5 : Int) (a6 : Int) (a7 : Int) (a8 : Int) (a9 : Int) (a10 : Int) (a11 : Int) (a12 : Int) (a13 : Int) (a14 : Int) (h0 : a0 = a13) (h1 : 0 ≤ a0 ∧ a0 ≤ 11 ∧ 0 ≤ a5) (h2 : (-1 ≤ a5 ∧ a5 ≤ 5) ∧ (0 ≤ a6 ∧ a6 ≤ 2) ∧ (0 ≤ a7 ∧ a7 ≤ 2) ∧ (-1 ≤ a8 ∧ a8 ≤ 2) ∧ (a5 = 1 ∨ a5 = 3 ∨ a5 = 4 → 0 ≤ a8)) (h3 : a1 = a14) (h4 : -99 ≤ a1 ∧ a1 ≤ 99 ∧ (a5 = 2 ∨ a5 = 4 ∨ a5 = 5 → 0 ≤ a1 ∧ a1 ≤ 29)) (h5 : 0 ≤ a0 ∧ a0 ≤ 11 ∧ -99 ≤ a1 ∧ a1 ≤ 99 → a2 = 199 * a0 + a1 + 99) (h6 : a3 = a13) (h7 : 0 ≤ a3 ∧ a3 ≤ 11 ∧ 0 ≤ a9) (h8 : (-1 ≤ a9 ∧ a9 ≤ 5) ∧ (0 ≤ a10 ∧ a10 ≤ 2) ∧ (0 ≤ a11 ∧ a11 ≤ 2) ∧ (-1 ≤ a12 ∧ a12 ≤ 2) ∧ (a9 = 1 ∨ a9 = 3 ∨ a9 = 4 → 0 ≤ a12)) (h9 : a4 = a14) (h10 : -99 ≤ a4 ∧ a4 ≤ 99 ∧ (a9 = 2 ∨ a9 = 4 ∨ a9 = 5 → 0 ≤ a4 ∧ a4 ≤ 29)) (r0 : -2147483648 ≤ a0 ∧ a0 < 2147483648) (r1 : -2147483648 ≤ a1 ∧ a1 < 2147483648) (r2 : -2147483648 ≤ a2 ∧ a2 < 2147483648) (r3 : -2147483648 ≤ a3 ∧ a3 < 2147483648) (r4 : -2147483648 ≤ a4 ∧ a4 < 2147483648) : a9 = 2 ∨ a9 = 5 → 0 ≤ a4 ∧ a4 ≤ 29 := by omega
theorem z_X11_queue_23 (a0 : Int) (a1 : Int) (a2 : Int) (a3 : Nat) (h0 : 0 ≤ a1 ∧ a1 ≤ 2388 ∧ a1 ≤ ((a3 : Nat) : Int)) (h1 : (a2 = 1 ∧ (0 : Int) ≤ a0 ∧ a0 ≤ (a1 - (1 : Int))) ∨ (a2 = 0 ∧ (a0 < (0 : Int) ∨ (a1 - (1 : Int)) < a0))) (h2 : a2 = 0) (r0 : -2147483648 ≤ a0 ∧ a0 < 2147483648) (r1 : -2147483648 ≤ a1 ∧ a1 < 2147483648) (r2 : -2147483648 ≤ a2 ∧ a2 < 2147483648) : ((1 : Int) = 0 ∨ (1 : Int) = 1) ∧ ((1 : Int) = 0 → 0 ≤ a0 ∧ a0 < a1) := by omega
theorem z_X11_queue_24 (a0 : Int) (a1 : Int) (a2 : Int) (a3 : Nat) (h0 : 0 ≤ a1 ∧ a1 ≤ 2388 ∧ a1 ≤ ((a3 : Nat) : Int)) (h1 : (a2 = 1 ∧ (0 : Int) ≤ a0 ∧ a0 ≤ (a1 - (1 : Int))) ∨ (a2 = 0 ∧ (a0 < (0 : Int) ∨ (a1 - (1 : Int)) < a0))) (h2 : ¬ (a2 = 0)) (r0 : -2147483648 ≤ a0 ∧ a0 < 2147483648) (r1 : -2147483648 ≤ a1 ∧ a1 < 2147483648) (r2 : -2147483648 ≤ a2 ∧ a2 < 2147483648) : ((0 : Int) = 0 ∨ (0 : Int) = 1) ∧ ((0 : Int) = 0 → 0 ≤ a0 ∧ a0 < a1) := by omega
abbrev rm_X11_queue : Room := { frames := 5, cells := 0, slots := 0, locals := 122 }
set_option maxHeartbeats 4000000 in
set_option maxRecDepth 100000 in
theorem c_X11_queue (l : Launch) (E : XE) (K : Nat → Nat) (F : Nat → Nat → Nat) (tl z0 z1 z2 z3 z4 z5 z6 z7 z8 z9 z10 z11 z12 z13 z14 z15 z16 z17 z18 z19 z20 : Int32) (ar0 ar1 ar2 ar3 ar4 ar5 ar6 ar7 ar8 ar9 ar10 : Nat → Int32) (a : Nat) (p0 : Int32) (p1 : Int32) (ha : K a = 13) (hR : RV ar1) : Met l yX11_queue (xw yX11_queue cX11_queue 4 (some .int)) rm_X11_queue (va_Pc [.ref a, .int p0, .int p1] (XP E K F (tl, [z0, z1, z2, z3, z4, z5, z6, z7, z8, z9, z10, z11, z12, z13, z14, z15, z16, z17, z18, z19, z20], [ar0, ar1, ar2, ar3, ar4, ar5, ar6, ar7, ar8, ar9, ar10]))) (XQ E (fun v (u : Int32 × Int32 × Int32 × (Nat → Int32) × (Nat → Int32) × (Nat → Int32)) => ∃ r : Int32, v = .int r) (fun u H => TW E K F (tl, [u.1, z1, z2, u.2.1, u.2.2.1, z5, z6, z7, z8, z9, z10, z11, z12, z13, z14, z15, z16, z17, z18, z19, z20], [ar0, ar1, u.2.2.2.1, u.2.2.2.2.1, u.2.2.2.2.2, ar5, ar6, ar7, ar8, ar9, ar10]) [] H)) 0 0 (xA E) := by
  refine x_enter (by decide) (Nat.le_of_ble_eq_true rfl) ?_
  intro p e s m args below meth c Q S hr hlk hnm hQ hP ls hl
  obtain ⟨hz, hK, hT⟩ := hP
  obtain ⟨hx, hb, -, -, -⟩ := id S
  obtain ⟨H, hT, hS, hgo⟩ : ∃ H : Heap, TW E K F (tl, [z0, z1, z2, z3, z4, z5, z6, z7, z8, z9, z10, z11, z12, z13, z14, z15, z16, z17, z18, z19, z20], [ar0, ar1, ar2, ar3, ar4, ar5, ar6, ar7, ar8, ar9, ar10]) [] H ∧ va_S (xA E) s.heap H [] ∧ H = s.heap := ⟨_, hT, va_S.rf, rfl⟩
  rw [← hgo]
  have hl : lv_has ls 4 [(0, .ref a), (1, .int p0), (2, .int p1)] := hl
  refine lv_aload_n hx hb dX11_queue_0 rfl (lv_at hl 0 rfl) ?_
  refine x_cv0 (x_runV (b := a) (As := []) (rest := []) S (c_X11_findQueue l E K F tl z0 z1 z2 z3 z4 z5 z6 z7 z8 z9 z10 z11 z12 z13 z14 z15 z16 z17 z18 z19 z20 ar0 ar1 ar2 ar3 ar4 ar5 ar6 ar7 ar8 ar9 ar10 a ha hR) mv_X11_findQueue km_X11_218 rfl rfl ⟨Nat.le_of_ble_eq_true rfl, Nat.le_of_ble_eq_true rfl⟩ (rc_13 hK hT ha) hK (fun _ => XP.blind) (fun U hU hW => XP.at hK hz hS hT hU hW) rfl hl.1 (Nat.le_of_ble_eq_true rfl) dX11_queue_1 ⟨Nat.le_of_ble_eq_true rfl, Nat.le_of_ble_eq_true rfl⟩) hS ?_
  rintro ⟨u1, u2, f3, f4, f5⟩ H locs t6 hT hS
  have hT : TW E K F (tl, [z0, z1, z2, u1, u2, z5, z6, z7, z8, z9, z10, z11, z12, z13, z14, z15, z16, z17, z18, z19, z20], [ar0, ar1, f3, f4, f5, ar5, ar6, ar7, ar8, ar9, ar10]) [] H := hT
  have t6 : 0 ≤ u2.toInt ∧ u2.toInt ≤ 2388 ∧ u2.toInt ≤ (((fV ar1 f4 f5) : Nat) : Int) := t6
  refine lv_aload_n hx hb dX11_queue_4 rfl (lv_at hl 0 rfl) ?_
  refine lv_iload_n hx hb dX11_queue_5 rfl (lv_at hl 1 rfl) ?_
  refine lv_i2l (v := p0.toInt64) hx hb dX11_queue_6 rfl ?_
  refine lv_lconst (v := (0 : Int64)) hx hb dX11_queue_7 (by decide) ?_
  refine lv_aload_n hx hb dX11_queue_8 rfl (lv_at hl 0 rfl) ?_
  refine gX11_19 S hK hT ha kf_X11_203 dX11_queue_9 (v := u2) rfl ?_
  refine lv_i2l (v := u2.toInt64) hx hb dX11_queue_12 rfl ?_
  refine lv_lconst (v := (1 : Int64)) hx hb dX11_queue_13 (by decide) ?_
  refine lv_lsub hx hb dX11_queue_14 (lv_topl (fun y9 hy10 => ?_))
  have hy10 : y9.toInt = u2.toInt - (1 : Int) := xl_sub (xl_i2l (rfl : Int32.toInt u2 = u2.toInt)) (by decide) (z_X11_queue_1 u2.toInt (fV ar1 f4 f5) t6 (xr u2)) (by decide) hy10
  refine x_clp (x_runS (As := [.long p0.toInt64, .long (0 : Int64), .long y9]) (rest := [.ref a]) S (c_X11_in l E K F tl z0 z1 z2 u1 u2 z5 z6 z7 z8 z9 z10 z11 z12 z13 z14 z15 z16 z17 z18 z19 z20 ar0 ar1 f3 f4 f5 ar5 ar6 ar7 ar8 ar9 ar10 H p0.toInt64 (0 : Int64) y9 p0.toInt (0 : Int) (u2.toInt - (1 : Int)) (xl_i2l (rfl : Int32.toInt p0 = p0.toInt)) (by decide) hy10) ms_X11_in km_X11_139 rfl rfl ⟨Nat.le_of_ble_eq_true rfl, Nat.le_of_ble_eq_true rfl⟩ hK (fun _ => XPh.blind) (fun U hU hW => XPh.at hK hz hS hT hU hW) rfl hl.1 (Nat.le_of_ble_eq_true rfl) dX11_queue_15 ⟨Nat.le_of_ble_eq_true rfl, Nat.le_of_ble_eq_true rfl⟩) hS ?_
  rintro _ _ locs ⟨x11, rfl, b12, t13⟩ hS
  have t13 : (x11.toInt = 1 ∧ (0 : Int) ≤ p0.toInt ∧ p0.toInt ≤ (u2.toInt - (1 : Int))) ∨ (x11.toInt = 0 ∧ (p0.toInt < (0 : Int) ∨ (u2.toInt - (1 : Int)) < p0.toInt)) := t13
  have J26 : ∀ (x14 : Int32) (H : Heap) (locs : List Loc) (ls : Array Slot), (x14.toInt = 0 ∨ x14.toInt = 1) ∧ (x14.toInt = 0 → 0 ≤ p0.toInt ∧ p0.toInt < u2.toInt) → TW E K F (tl, [z0, z1, z2, u1, u2, z5, z6, z7, z8, z9, z10, z11, z12, z13, z14, z15, z16, z17, z18, z19, z20], [ar0, ar1, f3, f4, f5, ar5, ar6, ar7, ar8, ar9, ar10]) [] H → va_S (xA E) s.heap H locs → lv_has ls 4 [(0, .ref a), (1, .int p0), (2, .int p1)] → W p l e rm_X11_queue s m args below meth c H locs 0 0 Q (F0 m 26 ls [.int x14, .ref a]) := by
    intro x14 H locs ls hf15 hT hS hl
    refine pX11_0 (kq := []) (v := x14) S hK hT hS ha kf_X11_134 (Nat.le_of_ble_eq_true rfl) dX11_queue_26 (fun _ h => by cases h) (fun H locs hT hS => ?_)
    have hT : TW E K F (tl, [x14, z1, z2, u1, u2, z5, z6, z7, z8, z9, z10, z11, z12, z13, z14, z15, z16, z17, z18, z19, z20], [ar0, ar1, f3, f4, f5, ar5, ar6, ar7, ar8, ar9, ar10]) [] H := hT
    refine lv_aload_n hx hb dX11_queue_29 rfl (lv_at hl 0 rfl) ?_
    refine gX11_0 S hK hT ha kf_X11_134 dX11_queue_30 (v := x14) rfl ?_
    refine lv_iconst (v := 1) hx hb dX11_queue_33 (by decide) ?_
    refine xi_cne (tgt := 39) hx hb (rfl : Int32.toInt x14 = x14.toInt) ((by decide) : Int32.toInt 1 = (1 : Int)) dX11_queue_34 (by decide) (fun c16 => ?_) (fun c16 => ?_)
    · refine lv_aload_n hx hb dX11_queue_39 rfl (lv_at hl 0 rfl) ?_
      refine gX11_17 S hK hT ha kf_X11_51 dX11_queue_40 (fun hk17 => ?_)
      refine lv_iload_n hx hb dX11_queue_43 rfl (lv_at hl 1 rfl) ?_
      refine tld_0 S hK hT hk17 (at_43 (f := f4) rfl) (by decide) (z_X11_queue_2 p0.toInt u2.toInt x11.toInt x14.toInt (fV ar1 f4 f5) t6 t13 hf15 c16 (xr p0) (xr u2) (xr x11) (xr x14)) dX11_queue_44 (fun x18 w19 o20 => ?_)
      have v22 : 0 ≤ x18.toInt ∧ x18.toInt ≤ 11 ∧ 0 ≤ (aI ar1 (10 * x18.toInt + (0 : Int))) := fV_rule (f4 := f5) w19 (z_X11_queue_3 p0.toInt u2.toInt x11.toInt x14.toInt (fV ar1 f4 f5) t6 t13 hf15 c16 (xr p0) (xr u2) (xr x11) (xr x14))
      have v23 : (-1 ≤ (aI ar1 (10 * x18.toInt + (0 : Int))) ∧ (aI ar1 (10 * x18.toInt + (0 : Int))) ≤ 5) ∧ (0 ≤ (aI ar1 (10 * x18.toInt + (1 : Int))) ∧ (aI ar1 (10 * x18.toInt + (1 : Int))) ≤ 2) ∧ (0 ≤ (aI ar1 (10 * x18.toInt + (2 : Int))) ∧ (aI ar1 (10 * x18.toInt + (2 : Int))) ≤ 2) ∧ (-1 ≤ (aI ar1 (10 * x18.toInt + (3 : Int))) ∧ (aI ar1 (10 * x18.toInt + (3 : Int))) ≤ 2) ∧ ((aI ar1 (10 * x18.toInt + (0 : Int))) = 1 ∨ (aI ar1 (10 * x18.toInt + (0 : Int))) = 3 ∨ (aI ar1 (10 * x18.toInt + (0 : Int))) = 4 → 0 ≤ (aI ar1 (10 * x18.toInt + (3 : Int)))) := RV.row hR (z_X11_queue_4 x18.toInt (aI ar1 (10 * x18.toInt + (0 : Int))) (aI f4 p0.toInt) w19 v22 (xr x18))
      refine lv_aload_n hx hb dX11_queue_45 rfl (lv_at hl 0 rfl) ?_
      refine gX11_18 S hK hT ha kf_X11_54 dX11_queue_46 (fun hk24 => ?_)
      refine lv_iload_n hx hb dX11_queue_49 rfl (lv_at hl 1 rfl) ?_
      refine tld_0 S hK hT hk24 (at_44 (f := f5) rfl) (by decide) (z_X11_queue_5 p0.toInt u2.toInt x11.toInt x14.toInt (fV ar1 f4 f5) t6 t13 hf15 c16 (xr p0) (xr u2) (xr x11) (xr x14)) dX11_queue_50 (fun x25 w26 o27 => ?_)
      have v29 : -99 ≤ x25.toInt ∧ x25.toInt ≤ 99 ∧ ((aI ar1 (10 * x18.toInt + (0 : Int))) = 2 ∨ (aI ar1 (10 * x18.toInt + (0 : Int))) = 4 ∨ (aI ar1 (10 * x18.toInt + (0 : Int))) = 5 → 0 ≤ x25.toInt ∧ x25.toInt ≤ 29) := fV_sub w19 w26 (z_X11_queue_6 p0.toInt u2.toInt x11.toInt x14.toInt (fV ar1 f4 f5) t6 t13 hf15 c16 (xr p0) (xr u2) (xr x11) (xr x14))
      refine x_clp (x_runS (As := [.int x18, .int x25]) (rest := []) S (c_X11_placeOf l E K F tl x14 z1 z2 u1 u2 z5 z6 z7 z8 z9 z10 z11 z12 z13 z14 z15 z16 z17 z18 z19 z20 ar0 ar1 f3 f4 f5 ar5 ar6 ar7 ar8 ar9 ar10 H x18 x25) ms_X11_placeOf km_X11_186 rfl rfl ⟨Nat.le_of_ble_eq_true rfl, Nat.le_of_ble_eq_true rfl⟩ hK (fun _ => XPh.blind) (fun U hU hW => XPh.at hK hz hS hT hU hW) rfl hl.1 (Nat.le_of_ble_eq_true rfl) dX11_queue_51 ⟨Nat.le_of_ble_eq_true rfl, Nat.le_of_ble_eq_true rfl⟩) hS ?_
      rintro _ _ locs ⟨x31, rfl, t30⟩ hS
      have t30 : 0 ≤ x18.toInt ∧ x18.toInt ≤ 11 ∧ -99 ≤ x25.toInt ∧ x25.toInt ≤ 99 → x31.toInt = 199 * x18.toInt + x25.toInt + 99 := t30
      refine lv_istore_n (lv' := [(3, .int x31), (0, .ref a), (1, .int p0), (2, .int p1)]) hx hb dX11_queue_54 rfl hl (by decide) rfl (fun ls hl => ?_)
      refine lv_iload_n hx hb dX11_queue_55 rfl (lv_at hl 3 rfl) ?_
      rcases ((z_X11_queue_7 p1.toInt (xr p1)) : (p1.toInt < 0 ∨ 4 < p1.toInt) ∨ (p1.toInt = 0) ∨ (p1.toInt = 1) ∨ (p1.toInt = 2) ∨ (p1.toInt = 3) ∨ (p1.toInt = 4)) with c33 | c33 | c33 | c33 | c33 | c33
      · refine lv_tableOut (tgt := 150) hx hb dX11_queue_56 c33 (by decide) ?_
        refine lv_ldc (v := (-2147483648)) hx hb S.2.2.2.1 (S.2.2.2.2 _ (List.mem_cons_of_mem _ kc_X11_57)) dX11_queue_150 ?_
        exact x_ri hx hb hr hlk hQ (Nat.le_of_ble_eq_true rfl) (Nat.le_of_ble_eq_true rfl) hS dX11_queue_152 (x14, u1, u2, f3, f4, f5) ⟨_, rfl⟩ hT.nil
      · refine lv_tableIn (off := 36) (tgt := 92) hx hb dX11_queue_56 (by rw [c33]; decide) (by rw [c33]; decide) (by rw [c33]; rfl) (by decide) ?_
        refine lv_aload_n hx hb dX11_queue_92 rfl (lv_at hl 1 rfl) ?_
        refine gX11_17 S hK hT ha kf_X11_51 dX11_queue_93 (fun hk34 => ?_)
        refine lv_iload_n hx hb dX11_queue_96 rfl (lv_at hl 2 rfl) ?_
        refine tld_0 S hK hT hk34 (at_43 (f := f4) rfl) (by decide) (z_X11_queue_8 p0.toInt u2.toInt x11.toInt x14.toInt (fV ar1 f4 f5) t6 t13 hf15 c16 (xr p0) (xr u2) (xr x11) (xr x14)) dX11_queue_97 (fun x35 w36 o37 => ?_)
        have v39 : 0 ≤ x35.toInt ∧ x35.toInt ≤ 11 ∧ 0 ≤ (aI ar1 (10 * x35.toInt + (0 : Int))) := fV_rule (f4 := f5) w36 (z_X11_queue_9 p0.toInt u2.toInt x11.toInt x14.toInt (fV ar1 f4 f5) t6 t13 hf15 c16 (xr p0) (xr u2) (xr x11) (xr x14))
        have v40 : (-1 ≤ (aI ar1 (10 * x35.toInt + (0 : Int))) ∧ (aI ar1 (10 * x35.toInt + (0 : Int))) ≤ 5) ∧ (0 ≤ (aI ar1 (10 * x35.toInt + (1 : Int))) ∧ (aI ar1 (10 * x35.toInt + (1 : Int))) ≤ 2) ∧ (0 ≤ (aI ar1 (10 * x35.toInt + (2 : Int))) ∧ (aI ar1 (10 * x35.toInt + (2 : Int))) ≤ 2) ∧ (-1 ≤ (aI ar1 (10 * x35.toInt + (3 : Int))) ∧ (aI ar1 (10 * x35.toInt + (3 : Int))) ≤ 2) ∧ ((aI ar1 (10 * x35.toInt + (0 : Int))) = 1 ∨ (aI ar1 (10 * x35.toInt + (0 : Int))) = 3 ∨ (aI ar1 (10 * x35.toInt + (0 : Int))) = 4 → 0 ≤ (aI ar1 (10 * x35.toInt + (3 : Int)))) := RV.row hR (z_X11_queue_10 x18.toInt x25.toInt x31.toInt x35.toInt (aI ar1 (10 * x18.toInt + (0 : Int))) (aI ar1 (10 * x18.toInt + (1 : Int))) (aI ar1 (10 * x18.toInt + (2 : Int))) (aI ar1 (10 * x18.toInt + (3 : Int))) (aI ar1 (10 * x35.toInt + (0 : Int))) (aI f4 p0.toInt) (aI f5 p0.toInt) w19 v22 v23 w26 v29 t30 w36 v39 (xr x18) (xr x25) (xr x31) (xr x35))
        exact x_ri hx hb hr hlk hQ (Nat.le_of_ble_eq_true rfl) (Nat.le_of_ble_eq_true rfl) hS dX11_queue_98 (x14, u1, u2, f3, f4, f5) ⟨_, rfl⟩ hT.nil
      · refine lv_tableIn (off := 43) (tgt := 99) hx hb dX11_queue_56 (by rw [c33]; decide) (by rw [c33]; decide) (by rw [c33]; rfl) (by decide) ?_
        refine lv_aload_n hx hb dX11_queue_99 rfl (lv_at hl 1 rfl) ?_
        refine gX11_18 S hK hT ha kf_X11_54 dX11_queue_100 (fun hk41 => ?_)
        refine lv_iload_n hx hb dX11_queue_103 rfl (lv_at hl 2 rfl) ?_
        refine tld_0 S hK hT hk41 (at_44 (f := f5) rfl) (by decide) (z_X11_queue_11 p0.toInt u2.toInt x11.toInt x14.toInt (fV ar1 f4 f5) t6 t13 hf15 c16 (xr p0) (xr u2) (xr x11) (xr x14)) dX11_queue_104 (fun x42 w43 o44 => ?_)
        have v46 : -99 ≤ x42.toInt ∧ x42.toInt ≤ 99 ∧ ((aI ar1 (10 * x18.toInt + (0 : Int))) = 2 ∨ (aI ar1 (10 * x18.toInt + (0 : Int))) = 4 ∨ (aI ar1 (10 * x18.toInt + (0 : Int))) = 5 → 0 ≤ x42.toInt ∧ x42.toInt ≤ 29) := fV_sub w19 w43 (z_X11_queue_12 p0.toInt u2.toInt x11.toInt x14.toInt (fV ar1 f4 f5) t6 t13 hf15 c16 (xr p0) (xr u2) (xr x11) (xr x14))
        exact x_ri hx hb hr hlk hQ (Nat.le_of_ble_eq_true rfl) (Nat.le_of_ble_eq_true rfl) hS dX11_queue_105 (x14, u1, u2, f3, f4, f5) ⟨_, rfl⟩ hT.nil
      · refine lv_tableIn (off := 50) (tgt := 106) hx hb dX11_queue_56 (by rw [c33]; decide) (by rw [c33]; decide) (by rw [c33]; rfl) (by decide) ?_
        refine lv_aload_n hx hb dX11_queue_106 rfl (lv_at hl 1 rfl) ?_
        refine gX11_13 S hK hT ha kf_X11_42 dX11_queue_107 (fun hk47 => ?_)
        refine lv_iload_n hx hb dX11_queue_110 rfl (lv_at hl 0 rfl) ?_
        refine al_0 S hK hT hk47 ar_38 (by decide) (z_X11_queue_13 x18.toInt x25.toInt x31.toInt (aI ar1 (10 * x18.toInt + (0 : Int))) (aI ar1 (10 * x18.toInt + (1 : Int))) (aI ar1 (10 * x18.toInt + (2 : Int))) (aI ar1 (10 * x18.toInt + (3 : Int))) (aI f4 p0.toInt) (aI f5 p0.toInt) w19 v22 v23 w26 v29 t30 (xr x18) (xr x25) (xr x31)) dX11_queue_111 (fun x48 o49 => ?_)
        exact x_ri hx hb hr hlk hQ (Nat.le_of_ble_eq_true rfl) (Nat.le_of_ble_eq_true rfl) hS dX11_queue_112 (x14, u1, u2, f3, f4, f5) ⟨_, rfl⟩ hT.nil
      · refine lv_tableIn (off := 57) (tgt := 113) hx hb dX11_queue_56 (by rw [c33]; decide) (by rw [c33]; decide) (by rw [c33]; rfl) (by decide) ?_
        refine lv_aload_n hx hb dX11_queue_113 rfl (lv_at hl 1 rfl) ?_
        refine gX11_11 S hK hT ha kf_X11_36 dX11_queue_114 (fun hk50 => ?_)
        refine lv_iload_n hx hb dX11_queue_117 rfl (lv_at hl 0 rfl) ?_
        refine al_0 S hK hT hk50 ar_38 (by decide) (z_X11_queue_14 x18.toInt x25.toInt x31.toInt (aI ar1 (10 * x18.toInt + (0 : Int))) (aI ar1 (10 * x18.toInt + (1 : Int))) (aI ar1 (10 * x18.toInt + (2 : Int))) (aI ar1 (10 * x18.toInt + (3 : Int))) (aI f4 p0.toInt) (aI f5 p0.toInt) w19 v22 v23 w26 v29 t30 (xr x18) (xr x25) (xr x31)) dX11_queue_118 (fun x51 o52 => ?_)
        exact x_ri hx hb hr hlk hQ (Nat.le_of_ble_eq_true rfl) (Nat.le_of_ble_eq_true rfl) hS dX11_queue_119 (x14, u1, u2, f3, f4, f5) ⟨_, rfl⟩ hT.nil
      · refine lv_tableIn (off := 64) (tgt := 120) hx hb dX11_queue_56 (by rw [c33]; decide) (by rw [c33]; decide) (by rw [c33]; rfl) (by decide) ?_
        refine lv_aload_n hx hb dX11_queue_120 rfl (lv_at hl 1 rfl) ?_
        refine lv_aload_n hx hb dX11_queue_121 rfl (lv_at hl 1 rfl) ?_
        refine gX11_17 S hK hT ha kf_X11_51 dX11_queue_122 (fun hk53 => ?_)
        refine lv_iload_n hx hb dX11_queue_125 rfl (lv_at hl 2 rfl) ?_
        refine tld_0 S hK hT hk53 (at_43 (f := f4) rfl) (by decide) (z_X11_queue_15 p0.toInt u2.toInt x11.toInt x14.toInt (fV ar1 f4 f5) t6 t13 hf15 c16 (xr p0) (xr u2) (xr x11) (xr x14)) dX11_queue_126 (fun x54 w55 o56 => ?_)
        have v58 : 0 ≤ x54.toInt ∧ x54.toInt ≤ 11 ∧ 0 ≤ (aI ar1 (10 * x54.toInt + (0 : Int))) := fV_rule (f4 := f5) w55 (z_X11_queue_16 p0.toInt u2.toInt x11.toInt x14.toInt (fV ar1 f4 f5) t6 t13 hf15 c16 (xr p0) (xr u2) (xr x11) (xr x14))
        have v59 : (-1 ≤ (aI ar1 (10 * x54.toInt + (0 : Int))) ∧ (aI ar1 (10 * x54.toInt + (0 : Int))) ≤ 5) ∧ (0 ≤ (aI ar1 (10 * x54.toInt + (1 : Int))) ∧ (aI ar1 (10 * x54.toInt + (1 : Int))) ≤ 2) ∧ (0 ≤ (aI ar1 (10 * x54.toInt + (2 : Int))) ∧ (aI ar1 (10 * x54.toInt + (2 : Int))) ≤ 2) ∧ (-1 ≤ (aI ar1 (10 * x54.toInt + (3 : Int))) ∧ (aI ar1 (10 * x54.toInt + (3 : Int))) ≤ 2) ∧ ((aI ar1 (10 * x54.toInt + (0 : Int))) = 1 ∨ (aI ar1 (10 * x54.toInt + (0 : Int))) = 3 ∨ (aI ar1 (10 * x54.toInt + (0 : Int))) = 4 → 0 ≤ (aI ar1 (10 * x54.toInt + (3 : Int)))) := RV.row hR (z_X11_queue_17 x18.toInt x25.toInt x31.toInt x54.toInt (aI ar1 (10 * x18.toInt + (0 : Int))) (aI ar1 (10 * x18.toInt + (1 : Int))) (aI ar1 (10 * x18.toInt + (2 : Int))) (aI ar1 (10 * x18.toInt + (3 : Int))) (aI ar1 (10 * x54.toInt + (0 : Int))) (aI f4 p0.toInt) (aI f5 p0.toInt) w19 v22 v23 w26 v29 t30 w55 v58 (xr x18) (xr x25) (xr x31) (xr x54))
        refine lv_aload_n hx hb dX11_queue_127 rfl (lv_at hl 1 rfl) ?_
        refine gX11_18 S hK hT ha kf_X11_54 dX11_queue_128 (fun hk60 => ?_)
        refine lv_iload_n hx hb dX11_queue_131 rfl (lv_at hl 2 rfl) ?_
        refine tld_0 S hK hT hk60 (at_44 (f := f5) rfl) (by decide) (z_X11_queue_18 p0.toInt u2.toInt x11.toInt x14.toInt (fV ar1 f4 f5) t6 t13 hf15 c16 (xr p0) (xr u2) (xr x11) (xr x14)) dX11_queue_132 (fun x61 w62 o63 => ?_)
        have v65 : -99 ≤ x61.toInt ∧ x61.toInt ≤ 99 ∧ ((aI ar1 (10 * x54.toInt + (0 : Int))) = 2 ∨ (aI ar1 (10 * x54.toInt + (0 : Int))) = 4 ∨ (aI ar1 (10 * x54.toInt + (0 : Int))) = 5 → 0 ≤ x61.toInt ∧ x61.toInt ≤ 29) := fV_sub w55 w62 (z_X11_queue_19 p0.toInt u2.toInt x11.toInt x14.toInt (fV ar1 f4 f5) t6 t13 hf15 c16 (xr p0) (xr u2) (xr x11) (xr x14))
        refine lv_aload_n hx hb dX11_queue_133 rfl (lv_at hl 1 rfl) ?_
        refine gX11_1 S hK hT ha kf_X11_9 dX11_queue_134 (fun hk66 => ?_)
        refine lv_iconst (v := 0) hx hb dX11_queue_137 (by decide) ?_
        refine x_clp (x_runV (b := a) (As := [.int x54, .int x61, .ref (F a 1), .int 0]) (rest := []) S (c_X11_fails l E K F tl x14 z1 z2 u1 u2 z5 z6 z7 z8 z9 z10 z11 z12 z13 z14 z15 z16 z17 z18 z19 z20 ar0 ar1 f3 f4 f5 ar5 ar6 ar7 ar8 ar9 ar10 H a x54 x61 (F a 1) 0 ha (XO.a hk66 (by decide)) hR (z_X11_queue_20 x18.toInt x25.toInt x31.toInt x54.toInt x61.toInt (aI ar1 (10 * x18.toInt + (0 : Int))) (aI ar1 (10 * x18.toInt + (1 : Int))) (aI ar1 (10 * x18.toInt + (2 : Int))) (aI ar1 (10 * x18.toInt + (3 : Int))) (aI ar1 (10 * x54.toInt + (0 : Int))) (aI ar1 (10 * x54.toInt + (1 : Int))) (aI ar1 (10 * x54.toInt + (2 : Int))) (aI ar1 (10 * x54.toInt + (3 : Int))) (aI f4 p0.toInt) (aI f5 p0.toInt) w19 v22 v23 w26 v29 t30 w55 v58 v59 w62 v65 (xr x18) (xr x25) (xr x31) (xr x54) (xr x61)) (z_X11_queue_21 x18.toInt x25.toInt x31.toInt x54.toInt x61.toInt (aI ar1 (10 * x18.toInt + (0 : Int))) (aI ar1 (10 * x18.toInt + (1 : Int))) (aI ar1 (10 * x18.toInt + (2 : Int))) (aI ar1 (10 * x18.toInt + (3 : Int))) (aI ar1 (10 * x54.toInt + (0 : Int))) (aI ar1 (10 * x54.toInt + (1 : Int))) (aI ar1 (10 * x54.toInt + (2 : Int))) (aI ar1 (10 * x54.toInt + (3 : Int))) (aI f4 p0.toInt) (aI f5 p0.toInt) w19 v22 v23 w26 v29 t30 w55 v58 v59 w62 v65 (xr x18) (xr x25) (xr x31) (xr x54) (xr x61)) (z_X11_queue_22 x18.toInt x25.toInt x31.toInt x54.toInt x61.toInt (aI ar1 (10 * x18.toInt + (0 : Int))) (aI ar1 (10 * x18.toInt + (1 : Int))) (aI ar1 (10 * x18.toInt + (2 : Int))) (aI ar1 (10 * x18.toInt + (3 : Int))) (aI ar1 (10 * x54.toInt + (0 : Int))) (aI ar1 (10 * x54.toInt + (1 : Int))) (aI ar1 (10 * x54.toInt + (2 : Int))) (aI ar1 (10 * x54.toInt + (3 : Int))) (aI f4 p0.toInt) (aI f5 p0.toInt) w19 v22 v23 w26 v29 t30 w55 v58 v59 w62 v65 (xr x18) (xr x25) (xr x31) (xr x54) (xr x61))) mv_X11_fails km_X11_221 rfl rfl ⟨Nat.le_of_ble_eq_true rfl, Nat.le_of_ble_eq_true rfl⟩ (rc_13 hK hT ha) hK (fun _ => XPh.blind) (fun U hU hW => XPh.at hK hz hS hT hU hW) rfl hl.1 (Nat.le_of_ble_eq_true rfl) dX11_queue_138 ⟨Nat.le_of_ble_eq_true rfl, Nat.le_of_ble_eq_true rfl⟩) hS ?_
        rintro _ _ locs ⟨x67, rfl, b68⟩ hS
        refine xi_zeq (tgt := 148) hx hb (rfl : Int32.toInt x67 = x67.toInt) dX11_queue_141 (by decide) (fun c69 => ?_) (fun c69 => ?_)
        · refine lv_iconst (v := 0) hx hb dX11_queue_148 (by decide) ?_
          exact x_ri hx hb hr hlk hQ (Nat.le_of_ble_eq_true rfl) (Nat.le_of_ble_eq_true rfl) hS dX11_queue_149 (x14, u1, u2, f3, f4, f5) ⟨_, rfl⟩ hT.nil
        · refine lv_iconst (v := 1) hx hb dX11_queue_144 (by decide) ?_
          refine lv_goto (tgt := 149) hx hb dX11_queue_145 (by decide) ?_
          exact x_ri hx hb hr hlk hQ (Nat.le_of_ble_eq_true rfl) (Nat.le_of_ble_eq_true rfl) hS dX11_queue_149 (x14, u1, u2, f3, f4, f5) ⟨_, rfl⟩ hT.nil
    · refine lv_iconst (v := 0) hx hb dX11_queue_37 (by decide) ?_
      exact x_ri hx hb hr hlk hQ (Nat.le_of_ble_eq_true rfl) (Nat.le_of_ble_eq_true rfl) hS dX11_queue_38 (x14, u1, u2, f3, f4, f5) ⟨_, rfl⟩ hT.nil
  refine xi_zeq (tgt := 25) hx hb (rfl : Int32.toInt x11 = x11.toInt) dX11_queue_18 (by decide) (fun c70 => ?_) (fun c70 => ?_)
  · refine lv_iconst (v := 1) hx hb dX11_queue_25 (by decide) ?_
    exact J26 1 _ _ _ (z_X11_queue_23 p0.toInt u2.toInt x11.toInt (fV ar1 f4 f5) t6 t13 c70 (xr p0) (xr u2) (xr x11)) hT.nil hS (lv_sub hl [0, 1, 2] rfl)
  · refine lv_iconst (v := 0) hx hb dX11_queue_21 (by decide) ?_
    refine lv_goto (tgt := 26) hx hb dX11_queue_22 (by decide) ?_
    exact J26 0 _ _ _ (z_X11_queue_24 p0.toInt u2.toInt x11.toInt (fV ar1 f4 f5) t6 t13 c70 (xr p0) (xr u2) (xr x11)) hT.nil hS (lv_sub hl [0, 1, 2] rfl)

theorem z_X11_group_1 (a0 : Int) (a1 : Int) (h0 : 0 ≤ a0 ∧ a0 < a1 ∧ 1 ≤ a1) (h1 : (1 : Int) ≤ a1) (r0 : -2147483648 ≤ a0 ∧ a0 < 2147483648) (r1 : -2147483648 ≤ a1 ∧ a1 < 2147483648) : ¬ (2147483648 - a1 < ((0 : Nat) : Int)) := by omega
theorem z_X11_group_2 (a0 : Int) (a1 : Int) (a2 : Int) (a3 : Int) (a4 : Int) (a5 : Nat) (a6 : Nat) (h0 : 0 ≤ a0 ∧ a0 ≤ 2388 ∧ a0 ≤ ((a6 : Nat) : Int)) (h1 : 0 ≤ a1 ∧ a1 < a2 ∧ 1 ≤ a2) (h2 : (1 : Int) ≤ a2) (h3 : 2147483648 - a2 < ((a5 + 1 : Nat) : Int)) (h4 : ¬ (a0 < a2)) (h5 : 0 ≤ a3 ∧ a3 ≤ a2) (h6 : a4 = a2 + 1 ∨ a2 + 1 < -2147483648 ∨ 2147483648 ≤ a2 + 1) (r0 : -2147483648 ≤ a0 ∧ a0 < 2147483648) (r1 : -2147483648 ≤ a1 ∧ a1 < 2147483648) (r2 : -2147483648 ≤ a2 ∧ a2 < 2147483648) (r3 : -2147483648 ≤ a3 ∧ a3 < 2147483648) (r4 : -2147483648 ≤ a4 ∧ a4 < 2147483648) : 0 ≤ a3 ∧ a3 < a4 ∧ 1 ≤ a4 := by omega
theorem z_X11_group_3 (a0 : Int) (a1 : Int) (a2 : Int) (a3 : Int) (a4 : Int) (a5 : Nat) (a6 : Nat) (h0 : 0 ≤ a0 ∧ a0 ≤ 2388 ∧ a0 ≤ ((a6 : Nat) : Int)) (h1 : 0 ≤ a1 ∧ a1 < a2 ∧ 1 ≤ a2) (h2 : (1 : Int) ≤ a2) (h3 : 2147483648 - a2 < ((a5 + 1 : Nat) : Int)) (h4 : ¬ (a0 < a2)) (h5 : 0 ≤ a3 ∧ a3 ≤ a2) (h6 : a4 = a2 + 1 ∨ a2 + 1 < -2147483648 ∨ 2147483648 ≤ a2 + 1) (r0 : -2147483648 ≤ a0 ∧ a0 < 2147483648) (r1 : -2147483648 ≤ a1 ∧ a1 < 2147483648) (r2 : -2147483648 ≤ a2 ∧ a2 < 2147483648) (r3 : -2147483648 ≤ a3 ∧ a3 < 2147483648) (r4 : -2147483648 ≤ a4 ∧ a4 < 2147483648) : (1 : Int) ≤ a4 := by omega
theorem z_X11_group_4 (a0 : Int) (a1 : Int) (a2 : Int) (a3 : Int) (a4 : Int) (a5 : Nat) (a6 : Nat) (h0 : 0 ≤ a0 ∧ a0 ≤ 2388 ∧ a0 ≤ ((a6 : Nat) : Int)) (h1 : 0 ≤ a1 ∧ a1 < a2 ∧ 1 ≤ a2) (h2 : (1 : Int) ≤ a2) (h3 : 2147483648 - a2 < ((a5 + 1 : Nat) : Int)) (h4 : ¬ (a0 < a2)) (h5 : 0 ≤ a3 ∧ a3 ≤ a2) (h6 : a4 = a2 + 1 ∨ a2 + 1 < -2147483648 ∨ 2147483648 ≤ a2 + 1) (r0 : -2147483648 ≤ a0 ∧ a0 < 2147483648) (r1 : -2147483648 ≤ a1 ∧ a1 < 2147483648) (r2 : -2147483648 ≤ a2 ∧ a2 < 2147483648) (r3 : -2147483648 ≤ a3 ∧ a3 < 2147483648) (r4 : -2147483648 ≤ a4 ∧ a4 < 2147483648) : 2147483648 - a4 < ((a5 : Nat) : Int) := by omega
theorem z_X11_group_5 (a0 : Int) (a1 : Int) (a2 : Int) (a3 : Nat) (a4 : Nat) (h0 : 0 ≤ a0 ∧ a0 ≤ 2388 ∧ a0 ≤ ((a4 : Nat) : Int)) (h1 : 0 ≤ a1 ∧ a1 < a2 ∧ 1 ≤ a2) (h2 : (1 : Int) ≤ a2) (h3 : 2147483648 - a2 < ((a3 + 1 : Nat) : Int)) (h4 : ¬ (a0 < a2)) (r0 : -2147483648 ≤ a0 ∧ a0 < 2147483648) (r1 : -2147483648 ≤ a1 ∧ a1 < 2147483648) (r2 : -2147483648 ≤ a2 ∧ a2 < 2147483648) : 0 ≤ a2 ∧ a2 ≤ a2 := by omega
theorem z_X11_group_6 (a0 : Int) (a1 : Int) (a2 : Int) (a3 : Nat) (a4 : Nat) (h0 : 0 ≤ a0 ∧ a0 ≤ 2388 ∧ a0 ≤ ((a4 : Nat) : Int)) (h1 : 0 ≤ a1 ∧ a1 < a2 ∧ 1 ≤ a2) (h2 : (1 : Int) ≤ a2) (h3 : 2147483648 - a2 < ((a3 + 1 : Nat) : Int)) (h4 : ¬ (a0 < a2)) (r0 : -2147483648 ≤ a0 ∧ a0 < 2147483648) (r1 : -2147483648 ≤ a1 ∧ a1 < 2147483648) (r2 : -2147483648 ≤ a2 ∧ a2 < 2147483648) : 0 ≤ a1 ∧ a1 < ((2400 : Nat) : Int) := by omega
theorem z_X11_group_7 (a0 : Int) (a1 : Int) (a2 : Int) (a3 : Nat) (a4 : Nat) (h0 : 0 ≤ a0 ∧ a0 ≤ 2388 ∧ a0 ≤ ((a4 : Nat) : Int)) (h1 : 0 ≤ a1 ∧ a1 < a2 ∧ 1 ≤ a2) (h2 : (1 : Int) ≤ a2) (h3 : 2147483648 - a2 < ((a3 + 1 : Nat) : Int)) (h4 : ¬ (a0 < a2)) (r0 : -2147483648 ≤ a0 ∧ a0 < 2147483648) (r1 : -2147483648 ≤ a1 ∧ a1 < 2147483648) (r2 : -2147483648 ≤ a2 ∧ a2 < 2147483648) : 0 ≤ a1 ∧ a1 < ((a4 : Nat) : Int) := by omega
theorem z_X11_group_8 (a0 : Int) (a1 : Int) (a2 : Int) (h0 : a0 = a2) (h1 : 0 ≤ a0 ∧ a0 ≤ 11 ∧ 0 ≤ a1) (r0 : -2147483648 ≤ a0 ∧ a0 < 2147483648) : 0 ≤ a0 ∧ a0 ≤ 11 := by omega
theorem z_X11_group_9 (a0 : Int) (a1 : Int) (a2 : Int) (a3 : Nat) (a4 : Nat) (h0 : 0 ≤ a0 ∧ a0 ≤ 2388 ∧ a0 ≤ ((a4 : Nat) : Int)) (h1 : 0 ≤ a1 ∧ a1 < a2 ∧ 1 ≤ a2) (h2 : (1 : Int) ≤ a2) (h3 : 2147483648 - a2 < ((a3 + 1 : Nat) : Int)) (h4 : ¬ (a0 < a2)) (h5 : ¬ (a2 = a0)) (r0 : -2147483648 ≤ a0 ∧ a0 < 2147483648) (r1 : -2147483648 ≤ a1 ∧ a1 < 2147483648) (r2 : -2147483648 ≤ a2 ∧ a2 < 2147483648) : 0 ≤ a2 ∧ a2 < ((2400 : Nat) : Int) := by omega
theorem z_X11_group_10 (a0 : Int) (a1 : Int) (a2 : Int) (a3 : Nat) (a4 : Nat) (h0 : 0 ≤ a0 ∧ a0 ≤ 2388 ∧ a0 ≤ ((a4 : Nat) : Int)) (h1 : 0 ≤ a1 ∧ a1 < a2 ∧ 1 ≤ a2) (h2 : (1 : Int) ≤ a2) (h3 : 2147483648 - a2 < ((a3 + 1 : Nat) : Int)) (h4 : ¬ (a0 < a2)) (h5 : ¬ (a2 = a0)) (r0 : -2147483648 ≤ a0 ∧ a0 < 2147483648) (r1 : -2147483648 ≤ a1 ∧ a1 < 2147483648) (r2 : -2147483648 ≤ a2 ∧ a2 < 2147483648) : 0 ≤ a2 ∧ a2 < ((a4 : Nat) : Int) := by omega
theorem z_X11_group_11 (a0 : Int) (a1 : Int) (a2 : Int) (h0 : a0 = a2) (h1 : 0 ≤ a0 ∧ a0 ≤ 11 ∧ 0 ≤ a1) (r0 : -2147483648 ≤ a0 ∧ a0 < 2147483648) : 0 ≤ a0 ∧ a0 ≤ 11 := by omega
theorem z_X11_group_12 (a0 : Int) (a1 : Int) (a2 : Int) (a3 : Nat) (a4 : Nat) (h0 : 0 ≤ a0 ∧ a0 ≤ 2388 ∧ a0 ≤ ((a4 : Nat) : Int)) (h1 : 0 ≤ a1 ∧ a1 < a2 ∧ 1 ≤ a2) (h2 : (1 : Int) ≤ a2) (h3 : 2147483648 - a2 < ((a3 + 1 : Nat) : Int)) (h4 : ¬ (a0 < a2)) (h5 : ¬ (a2 = a0)) (r0 : -2147483648 ≤ a0 ∧ a0 < 2147483648) (r1 : -2147483648 ≤ a1 ∧ a1 < 2147483648) (r2 : -2147483648 ≤ a2 ∧ a2 < 2147483648) : 0 ≤ a1 ∧ a1 < ((2400 : Nat) : Int) := by omega
theorem z_X11_group_13 (a0 : Int) (a1 : Int) (a2 : Int) (a3 : Nat) (a4 : Nat) (h0 : 0 ≤ a0 ∧ a0 ≤ 2388 ∧ a0 ≤ ((a4 : Nat) : Int)) (h1 : 0 ≤ a1 ∧ a1 < a2 ∧ 1 ≤ a2) (h2 : (1 : Int) ≤ a2) (h3 : 2147483648 - a2 < ((a3 + 1 : Nat) : Int)) (h4 : ¬ (a0 < a2)) (h5 : ¬ (a2 = a0)) (r0 : -2147483648 ≤ a0 ∧ a0 < 2147483648) (r1 : -2147483648 ≤ a1 ∧ a1 < 2147483648) (r2 : -2147483648 ≤ a2 ∧ a2 < 2147483648) : 0 ≤ a1 ∧ a1 < ((a4 : Nat) : Int) := by omega
theorem z_X11_group_14 (a0 : Int) (a1 : Int) (a2 : Int) (h0 : a0 = a2) (h1 : 0 ≤ a0 ∧ a0 ≤ 11 ∧ 0 ≤ a1) (r0 : -2147483648 ≤ a0 ∧ a0 < 2147483648) : 0 ≤ a0 ∧ a0 ≤ 11 := by omega
theorem z_X11_group_15 (a0 : Int) (a1 : Int) (a2 : Int) (a3 : Nat) (a4 : Nat) (h0 : 0 ≤ a0 ∧ a0 ≤ 2388 ∧ a0 ≤ ((a4 : Nat) : Int)) (h1 : 0 ≤ a1 ∧ a1 < a2 ∧ 1 ≤ a2) (h2 : (1 : Int) ≤ a2) (h3 : 2147483648 - a2 < ((a3 + 1 : Nat) : Int)) (h4 : ¬ (a0 < a2)) (h5 : ¬ (a2 = a0)) (r0 : -2147483648 ≤ a0 ∧ a0 < 2147483648) (r1 : -2147483648 ≤ a1 ∧ a1 < 2147483648) (r2 : -2147483648 ≤ a2 ∧ a2 < 2147483648) : 0 ≤ a1 ∧ a1 ≤ a2 := by omega
abbrev rm_X11_group : Room := { frames := 5, cells := 0, slots := 0, locals := 122 }
set_option maxHeartbeats 4000000 in
set_option maxRecDepth 100000 in
theorem c_X11_group (l : Launch) (E : XE) (K : Nat → Nat) (F : Nat → Nat → Nat) (tl z0 z1 z2 z3 z4 z5 z6 z7 z8 z9 z10 z11 z12 z13 z14 z15 z16 z17 z18 z19 z20 : Int32) (ar0 ar1 ar2 ar3 ar4 ar5 ar6 ar7 ar8 ar9 ar10 : Nat → Int32) (a : Nat) (p0 : Int32) (p1 : Int32) (ha : K a = 13) (hR : RV ar1) : Met l yX11_group (xw yX11_group cX11_group 6 (some .int)) rm_X11_group (va_Pc [.ref a, .int p0, .int p1] (XP E K F (tl, [z0, z1, z2, z3, z4, z5, z6, z7, z8, z9, z10, z11, z12, z13, z14, z15, z16, z17, z18, z19, z20], [ar0, ar1, ar2, ar3, ar4, ar5, ar6, ar7, ar8, ar9, ar10]))) (XQ E (fun v (u : Int32 × Int32 × Int32 × (Nat → Int32) × (Nat → Int32) × (Nat → Int32)) => ∃ r : Int32, v = .int r) (fun u H => TW E K F (tl, [u.1, z1, z2, u.2.1, u.2.2.1, z5, z6, z7, z8, z9, z10, z11, z12, z13, z14, z15, z16, z17, z18, z19, z20], [ar0, ar1, u.2.2.2.1, u.2.2.2.2.1, u.2.2.2.2.2, ar5, ar6, ar7, ar8, ar9, ar10]) [] H)) 0 0 (xA E) := by
  refine x_enter (by decide) (Nat.le_of_ble_eq_true rfl) ?_
  intro p e s m args below meth c Q S hr hlk hnm hQ hP ls hl
  obtain ⟨hz, hK, hT⟩ := hP
  obtain ⟨hx, hb, -, -, -⟩ := id S
  obtain ⟨H, hT, hS, hgo⟩ : ∃ H : Heap, TW E K F (tl, [z0, z1, z2, z3, z4, z5, z6, z7, z8, z9, z10, z11, z12, z13, z14, z15, z16, z17, z18, z19, z20], [ar0, ar1, ar2, ar3, ar4, ar5, ar6, ar7, ar8, ar9, ar10]) [] H ∧ va_S (xA E) s.heap H [] ∧ H = s.heap := ⟨_, hT, va_S.rf, rfl⟩
  rw [← hgo]
  have hl : lv_has ls 6 [(0, .ref a), (1, .int p0), (2, .int p1)] := hl
  refine lv_aload_n hx hb dX11_group_0 rfl (lv_at hl 0 rfl) ?_
  refine lv_iconst (v := 0) hx hb dX11_group_1 (by decide) ?_
  refine pX11_0 (kq := []) (v := 0) S hK hT hS ha kf_X11_134 (Nat.le_of_ble_eq_true rfl) dX11_group_2 (fun _ h => by cases h) (fun H locs hT hS => ?_)
  have hT : TW E K F (tl, [0, z1, z2, z3, z4, z5, z6, z7, z8, z9, z10, z11, z12, z13, z14, z15, z16, z17, z18, z19, z20], [ar0, ar1, ar2, ar3, ar4, ar5, ar6, ar7, ar8, ar9, ar10]) [] H := hT
  refine lv_iload_n hx hb dX11_group_5 rfl (lv_at hl 1 rfl) ?_
  refine lv_iconst (v := (-1)) hx hb dX11_group_6 (by decide) ?_
  refine xi_clt (tgt := 20) hx hb (rfl : Int32.toInt p0 = p0.toInt) ((by decide) : Int32.toInt (-1) = (-1 : Int)) dX11_group_7 (by decide) (fun c1 => ?_) (fun c1 => ?_)
  · refine lv_iconst (v := (-1)) hx hb dX11_group_20 (by decide) ?_
    exact x_ri hx hb hr hlk hQ (Nat.le_of_ble_eq_true rfl) (Nat.le_of_ble_eq_true rfl) hS dX11_group_21 (0, z3, z4, ar2, ar3, ar4) ⟨_, rfl⟩ hT.nil
  · refine lv_iload_n hx hb dX11_group_10 rfl (lv_at hl 2 rfl) ?_
    refine lv_i2l (v := p1.toInt64) hx hb dX11_group_11 rfl ?_
    refine lv_lconst (v := (0 : Int64)) hx hb dX11_group_12 (by decide) ?_
    refine lv_lconst (v := (1 : Int64)) hx hb dX11_group_13 (by decide) ?_
    refine x_clp (x_runS (As := [.long p1.toInt64, .long (0 : Int64), .long (1 : Int64)]) (rest := []) S (c_X11_in l E K F tl 0 z1 z2 z3 z4 z5 z6 z7 z8 z9 z10 z11 z12 z13 z14 z15 z16 z17 z18 z19 z20 ar0 ar1 ar2 ar3 ar4 ar5 ar6 ar7 ar8 ar9 ar10 H p1.toInt64 (0 : Int64) (1 : Int64) p1.toInt (0 : Int) (1 : Int) (xl_i2l (rfl : Int32.toInt p1 = p1.toInt)) (by decide) (by decide)) ms_X11_in km_X11_139 rfl rfl ⟨Nat.le_of_ble_eq_true rfl, Nat.le_of_ble_eq_true rfl⟩ hK (fun _ => XPh.blind) (fun U hU hW => XPh.at hK hz hS hT hU hW) rfl hl.1 (Nat.le_of_ble_eq_true rfl) dX11_group_14 ⟨Nat.le_of_ble_eq_true rfl, Nat.le_of_ble_eq_true rfl⟩) hS ?_
    rintro _ _ locs ⟨x2, rfl, b3, t4⟩ hS
    have t4 : (x2.toInt = 1 ∧ (0 : Int) ≤ p1.toInt ∧ p1.toInt ≤ (1 : Int)) ∨ (x2.toInt = 0 ∧ (p1.toInt < (0 : Int) ∨ (1 : Int) < p1.toInt)) := t4
    refine xi_zne (tgt := 22) hx hb (rfl : Int32.toInt x2 = x2.toInt) dX11_group_17 (by decide) (fun c5 => ?_) (fun c5 => ?_)
    · refine lv_aload_n hx hb dX11_group_22 rfl (lv_at hl 0 rfl) ?_
      refine x_cv0 (x_runV (b := a) (As := []) (rest := []) S (c_X11_findQueue l E K F tl 0 z1 z2 z3 z4 z5 z6 z7 z8 z9 z10 z11 z12 z13 z14 z15 z16 z17 z18 z19 z20 ar0 ar1 ar2 ar3 ar4 ar5 ar6 ar7 ar8 ar9 ar10 a ha hR) mv_X11_findQueue km_X11_218 rfl rfl ⟨Nat.le_of_ble_eq_true rfl, Nat.le_of_ble_eq_true rfl⟩ (rc_13 hK hT ha) hK (fun _ => XP.blind) (fun U hU hW => XP.at hK hz hS hT hU hW) rfl hl.1 (Nat.le_of_ble_eq_true rfl) dX11_group_23 ⟨Nat.le_of_ble_eq_true rfl, Nat.le_of_ble_eq_true rfl⟩) hS ?_
      rintro ⟨u6, u7, f8, f9, f10⟩ H locs t11 hT hS
      have hT : TW E K F (tl, [0, z1, z2, u6, u7, z5, z6, z7, z8, z9, z10, z11, z12, z13, z14, z15, z16, z17, z18, z19, z20], [ar0, ar1, f8, f9, f10, ar5, ar6, ar7, ar8, ar9, ar10]) [] H := hT
      have t11 : 0 ≤ u7.toInt ∧ u7.toInt ≤ 2388 ∧ u7.toInt ≤ (((fV ar1 f9 f10) : Nat) : Int) := t11
      refine lv_iconst (v := 0) hx hb dX11_group_26 (by decide) ?_
      refine lv_istore_n (lv' := [(3, .int 0), (0, .ref a), (1, .int p0), (2, .int p1)]) hx hb dX11_group_27 rfl hl (by decide) rfl (fun ls hl => ?_)
      refine lv_iconst (v := 0) hx hb dX11_group_28 (by decide) ?_
      refine lv_istore (lv' := [(4, .int 0), (3, .int 0), (0, .ref a), (1, .int p0), (2, .int p1)]) hx hb dX11_group_29 hl (by decide) rfl (fun ls hl => ?_)
      refine lv_iconst (v := 1) hx hb dX11_group_31 (by decide) ?_
      refine lv_istore (lv' := [(5, .int 1), (4, .int 0), (3, .int 0), (0, .ref a), (1, .int p0), (2, .int p1)]) hx hb dX11_group_32 hl (by decide) rfl (fun ls hl => ?_)
      have L34 : ∀ (N17 : Nat) (x14 : Int32) (x15 : Int32) (x16 : Int32) (H : Heap) (locs : List Loc) (ls : Array Slot), 0 ≤ x15.toInt ∧ x15.toInt < x16.toInt ∧ 1 ≤ x16.toInt → (1 : Int) ≤ x16.toInt → 2147483648 - x16.toInt < ((N17 : Nat) : Int) → TW E K F (tl, [0, z1, z2, u6, u7, z5, z6, z7, z8, z9, z10, z11, z12, z13, z14, z15, z16, z17, z18, z19, z20], [ar0, ar1, f8, f9, f10, ar5, ar6, ar7, ar8, ar9, ar10]) [] H → va_S (xA E) s.heap H locs → lv_has ls 6 [(0, .ref a), (1, .int p0), (2, .int p1), (3, .int x14), (4, .int x15), (5, .int x16)] → W p l e rm_X11_group s m args below meth c H locs 0 0 Q (F0 m 34 ls []) := by
        intro N17
        induction N17 with
        | zero =>
          intro x14 x15 x16 H locs ls hf18 hf19 hm20
          exact absurd hm20 (z_X11_group_1 x15.toInt x16.toInt hf18 hf19 (xr x15) (xr x16))
        | succ N17 ih21 =>
          intro x14 x15 x16 H locs ls hf18 hf19 hm20 hT hS hl
          refine lv_iload hx hb dX11_group_34 (lv_at hl 5 rfl) ?_
          refine lv_aload_n hx hb dX11_group_36 rfl (lv_at hl 0 rfl) ?_
          refine gX11_19 S hK hT ha kf_X11_203 dX11_group_37 (v := u7) rfl ?_
          refine xi_cgt (tgt := 107) hx hb (rfl : Int32.toInt x16 = x16.toInt) (rfl : Int32.toInt u7 = u7.toInt) dX11_group_40 (by decide) (fun c22 => ?_) (fun c22 => ?_)
          · refine lv_iload_n hx hb dX11_group_107 rfl (lv_at hl 1 rfl) ?_
            refine lv_iconst (v := (-1)) hx hb dX11_group_108 (by decide) ?_
            refine xi_cne (tgt := 116) hx hb (rfl : Int32.toInt p0 = p0.toInt) ((by decide) : Int32.toInt (-1) = (-1 : Int)) dX11_group_109 (by decide) (fun c23 => ?_) (fun c23 => ?_)
            · refine lv_iconst (v := (-1)) hx hb dX11_group_116 (by decide) ?_
              exact x_ri hx hb hr hlk hQ (Nat.le_of_ble_eq_true rfl) (Nat.le_of_ble_eq_true rfl) hS dX11_group_117 (0, u6, u7, f8, f9, f10) ⟨_, rfl⟩ hT.nil
            · refine lv_iload_n hx hb dX11_group_112 rfl (lv_at hl 3 rfl) ?_
              refine lv_goto (tgt := 117) hx hb dX11_group_113 (by decide) ?_
              exact x_ri hx hb hr hlk hQ (Nat.le_of_ble_eq_true rfl) (Nat.le_of_ble_eq_true rfl) hS dX11_group_117 (0, u6, u7, f8, f9, f10) ⟨_, rfl⟩ hT.nil
          · refine lv_iload hx hb dX11_group_43 (lv_at hl 5 rfl) ?_
            refine lv_aload_n hx hb dX11_group_45 rfl (lv_at hl 0 rfl) ?_
            refine gX11_19 S hK hT ha kf_X11_203 dX11_group_46 (v := u7) rfl ?_
            have J101 : ∀ (x24 : Int32) (x25 : Int32) (H : Heap) (locs : List Loc) (ls : Array Slot), 0 ≤ x25.toInt ∧ x25.toInt ≤ x16.toInt → TW E K F (tl, [0, z1, z2, u6, u7, z5, z6, z7, z8, z9, z10, z11, z12, z13, z14, z15, z16, z17, z18, z19, z20], [ar0, ar1, f8, f9, f10, ar5, ar6, ar7, ar8, ar9, ar10]) [] H → va_S (xA E) s.heap H locs → lv_has ls 6 [(0, .ref a), (1, .int p0), (2, .int p1), (3, .int x24), (4, .int x25), (5, .int x16)] → W p l e rm_X11_group s m args below meth c H locs 0 0 Q (F0 m 101 ls []) := by
              intro x24 x25 H locs ls hf26 hT hS hl
              refine xi_iinc (n := 1) (lv' := fun z9 => [(5, .int z9), (0, .ref a), (1, .int p0), (2, .int p1), (3, .int x24), (4, .int x25)]) (k := 5) hx hb (rfl : Int32.toInt x16 = x16.toInt) (by decide) dX11_group_101 hl rfl (by decide) (fun _ => rfl) (fun x27 ls t28 hl => ?_)
              have hl : lv_has ls 6 [(5, .int x27), (0, .ref a), (1, .int p0), (2, .int p1), (3, .int x24), (4, .int x25)] := hl
              refine lv_goto (tgt := 34) hx hb dX11_group_104 (by decide) ?_
              exact ih21 x24 x25 x27 _ _ _ (z_X11_group_2 u7.toInt x15.toInt x16.toInt x25.toInt x27.toInt N17 (fV ar1 f9 f10) t11 hf18 hf19 hm20 c22 hf26 t28 (xr u7) (xr x15) (xr x16) (xr x25) (xr x27)) (z_X11_group_3 u7.toInt x15.toInt x16.toInt x25.toInt x27.toInt N17 (fV ar1 f9 f10) t11 hf18 hf19 hm20 c22 hf26 t28 (xr u7) (xr x15) (xr x16) (xr x25) (xr x27)) (z_X11_group_4 u7.toInt x15.toInt x16.toInt x25.toInt x27.toInt N17 (fV ar1 f9 f10) t11 hf18 hf19 hm20 c22 hf26 t28 (xr u7) (xr x15) (xr x16) (xr x25) (xr x27)) hT.nil hS (lv_sub hl [1, 2, 3, 4, 5, 0] rfl)
            have J69 : ∀ (H : Heap) (locs : List Loc) (ls : Array Slot), TW E K F (tl, [0, z1, z2, u6, u7, z5, z6, z7, z8, z9, z10, z11, z12, z13, z14, z15, z16, z17, z18, z19, z20], [ar0, ar1, f8, f9, f10, ar5, ar6, ar7, ar8, ar9, ar10]) [] H → va_S (xA E) s.heap H locs → lv_has ls 6 [(0, .ref a), (1, .int p0), (2, .int p1), (3, .int x14), (4, .int x15), (5, .int x16)] → W p l e rm_X11_group s m args below meth c H locs 0 0 Q (F0 m 69 ls []) := by
              intro H locs ls hT hS hl
              refine lv_iload_n hx hb dX11_group_69 rfl (lv_at hl 3 rfl) ?_
              refine lv_iload_n hx hb dX11_group_70 rfl (lv_at hl 1 rfl) ?_
              refine xi_cne (tgt := 94) hx hb (rfl : Int32.toInt x14 = x14.toInt) (rfl : Int32.toInt p0 = p0.toInt) dX11_group_71 (by decide) (fun c29 => ?_) (fun c29 => ?_)
              · refine xi_iinc (n := 1) (lv' := fun z9 => [(3, .int z9), (0, .ref a), (1, .int p0), (2, .int p1), (4, .int x15), (5, .int x16)]) (k := 3) hx hb (rfl : Int32.toInt x14 = x14.toInt) (by decide) dX11_group_94 hl rfl (by decide) (fun _ => rfl) (fun x30 ls t31 hl => ?_)
                have hl : lv_has ls 6 [(3, .int x30), (0, .ref a), (1, .int p0), (2, .int p1), (4, .int x15), (5, .int x16)] := hl
                refine lv_iload hx hb dX11_group_97 (lv_at hl 5 rfl) ?_
                refine lv_istore (lv' := [(4, .int x16), (3, .int x30), (0, .ref a), (1, .int p0), (2, .int p1), (5, .int x16)]) hx hb dX11_group_99 hl (by decide) rfl (fun ls hl => ?_)
                exact J101 x30 x16 _ _ _ (z_X11_group_5 u7.toInt x15.toInt x16.toInt N17 (fV ar1 f9 f10) t11 hf18 hf19 hm20 c22 (xr u7) (xr x15) (xr x16)) hT.nil hS (lv_sub hl [2, 3, 4, 1, 0, 5] rfl)
              · refine lv_iload_n hx hb dX11_group_74 rfl (lv_at hl 2 rfl) ?_
                refine xi_zne (tgt := 88) hx hb (rfl : Int32.toInt p1 = p1.toInt) dX11_group_75 (by decide) (fun c32 => ?_) (fun c32 => ?_)
                · refine lv_iload hx hb dX11_group_88 (lv_at hl 5 rfl) ?_
                  refine lv_iload hx hb dX11_group_90 (lv_at hl 4 rfl) ?_
                  refine xi_isub hx hb (rfl : Int32.toInt x16 = x16.toInt) (rfl : Int32.toInt x15 = x15.toInt) dX11_group_92 (fun x33 t34 => ?_)
                  exact x_ri hx hb hr hlk hQ (Nat.le_of_ble_eq_true rfl) (Nat.le_of_ble_eq_true rfl) hS dX11_group_93 (0, u6, u7, f8, f9, f10) ⟨_, rfl⟩ hT.nil
                · refine lv_aload_n hx hb dX11_group_78 rfl (lv_at hl 0 rfl) ?_
                  refine gX11_17 S hK hT ha kf_X11_51 dX11_group_79 (fun hk35 => ?_)
                  refine lv_iload hx hb dX11_group_82 (lv_at hl 4 rfl) ?_
                  refine tld_0 S hK hT hk35 (at_43 (f := f9) rfl) (by decide) (z_X11_group_6 u7.toInt x15.toInt x16.toInt N17 (fV ar1 f9 f10) t11 hf18 hf19 hm20 c22 (xr u7) (xr x15) (xr x16)) dX11_group_84 (fun x36 w37 o38 => ?_)
                  have v40 : 0 ≤ x36.toInt ∧ x36.toInt ≤ 11 ∧ 0 ≤ (aI ar1 (10 * x36.toInt + (0 : Int))) := fV_rule (f4 := f10) w37 (z_X11_group_7 u7.toInt x15.toInt x16.toInt N17 (fV ar1 f9 f10) t11 hf18 hf19 hm20 c22 (xr u7) (xr x15) (xr x16))
                  have v41 : (-1 ≤ (aI ar1 (10 * x36.toInt + (0 : Int))) ∧ (aI ar1 (10 * x36.toInt + (0 : Int))) ≤ 5) ∧ (0 ≤ (aI ar1 (10 * x36.toInt + (1 : Int))) ∧ (aI ar1 (10 * x36.toInt + (1 : Int))) ≤ 2) ∧ (0 ≤ (aI ar1 (10 * x36.toInt + (2 : Int))) ∧ (aI ar1 (10 * x36.toInt + (2 : Int))) ≤ 2) ∧ (-1 ≤ (aI ar1 (10 * x36.toInt + (3 : Int))) ∧ (aI ar1 (10 * x36.toInt + (3 : Int))) ≤ 2) ∧ ((aI ar1 (10 * x36.toInt + (0 : Int))) = 1 ∨ (aI ar1 (10 * x36.toInt + (0 : Int))) = 3 ∨ (aI ar1 (10 * x36.toInt + (0 : Int))) = 4 → 0 ≤ (aI ar1 (10 * x36.toInt + (3 : Int)))) := RV.row hR (z_X11_group_8 x36.toInt (aI ar1 (10 * x36.toInt + (0 : Int))) (aI f9 x15.toInt) w37 v40 (xr x36))
                  refine lv_goto (tgt := 93) hx hb dX11_group_85 (by decide) ?_
                  exact x_ri hx hb hr hlk hQ (Nat.le_of_ble_eq_true rfl) (Nat.le_of_ble_eq_true rfl) hS dX11_group_93 (0, u6, u7, f8, f9, f10) ⟨_, rfl⟩ hT.nil
            refine xi_ceq (tgt := 69) hx hb (rfl : Int32.toInt x16 = x16.toInt) (rfl : Int32.toInt u7 = u7.toInt) dX11_group_49 (by decide) (fun c42 => ?_) (fun c42 => ?_)
            · exact J69 _ _ _ hT.nil hS (lv_sub hl [0, 1, 2, 3, 4, 5] rfl)
            · refine lv_aload_n hx hb dX11_group_52 rfl (lv_at hl 0 rfl) ?_
              refine gX11_17 S hK hT ha kf_X11_51 dX11_group_53 (fun hk43 => ?_)
              refine lv_iload hx hb dX11_group_56 (lv_at hl 5 rfl) ?_
              refine tld_0 S hK hT hk43 (at_43 (f := f9) rfl) (by decide) (z_X11_group_9 u7.toInt x15.toInt x16.toInt N17 (fV ar1 f9 f10) t11 hf18 hf19 hm20 c22 c42 (xr u7) (xr x15) (xr x16)) dX11_group_58 (fun x44 w45 o46 => ?_)
              have v48 : 0 ≤ x44.toInt ∧ x44.toInt ≤ 11 ∧ 0 ≤ (aI ar1 (10 * x44.toInt + (0 : Int))) := fV_rule (f4 := f10) w45 (z_X11_group_10 u7.toInt x15.toInt x16.toInt N17 (fV ar1 f9 f10) t11 hf18 hf19 hm20 c22 c42 (xr u7) (xr x15) (xr x16))
              have v49 : (-1 ≤ (aI ar1 (10 * x44.toInt + (0 : Int))) ∧ (aI ar1 (10 * x44.toInt + (0 : Int))) ≤ 5) ∧ (0 ≤ (aI ar1 (10 * x44.toInt + (1 : Int))) ∧ (aI ar1 (10 * x44.toInt + (1 : Int))) ≤ 2) ∧ (0 ≤ (aI ar1 (10 * x44.toInt + (2 : Int))) ∧ (aI ar1 (10 * x44.toInt + (2 : Int))) ≤ 2) ∧ (-1 ≤ (aI ar1 (10 * x44.toInt + (3 : Int))) ∧ (aI ar1 (10 * x44.toInt + (3 : Int))) ≤ 2) ∧ ((aI ar1 (10 * x44.toInt + (0 : Int))) = 1 ∨ (aI ar1 (10 * x44.toInt + (0 : Int))) = 3 ∨ (aI ar1 (10 * x44.toInt + (0 : Int))) = 4 → 0 ≤ (aI ar1 (10 * x44.toInt + (3 : Int)))) := RV.row hR (z_X11_group_11 x44.toInt (aI ar1 (10 * x44.toInt + (0 : Int))) (aI f9 x16.toInt) w45 v48 (xr x44))
              refine lv_aload_n hx hb dX11_group_59 rfl (lv_at hl 0 rfl) ?_
              refine gX11_17 S hK hT ha kf_X11_51 dX11_group_60 (fun hk50 => ?_)
              refine lv_iload hx hb dX11_group_63 (lv_at hl 4 rfl) ?_
              refine tld_0 S hK hT hk50 (at_43 (f := f9) rfl) (by decide) (z_X11_group_12 u7.toInt x15.toInt x16.toInt N17 (fV ar1 f9 f10) t11 hf18 hf19 hm20 c22 c42 (xr u7) (xr x15) (xr x16)) dX11_group_65 (fun x51 w52 o53 => ?_)
              have v55 : 0 ≤ x51.toInt ∧ x51.toInt ≤ 11 ∧ 0 ≤ (aI ar1 (10 * x51.toInt + (0 : Int))) := fV_rule (f4 := f10) w52 (z_X11_group_13 u7.toInt x15.toInt x16.toInt N17 (fV ar1 f9 f10) t11 hf18 hf19 hm20 c22 c42 (xr u7) (xr x15) (xr x16))
              have v56 : (-1 ≤ (aI ar1 (10 * x51.toInt + (0 : Int))) ∧ (aI ar1 (10 * x51.toInt + (0 : Int))) ≤ 5) ∧ (0 ≤ (aI ar1 (10 * x51.toInt + (1 : Int))) ∧ (aI ar1 (10 * x51.toInt + (1 : Int))) ≤ 2) ∧ (0 ≤ (aI ar1 (10 * x51.toInt + (2 : Int))) ∧ (aI ar1 (10 * x51.toInt + (2 : Int))) ≤ 2) ∧ (-1 ≤ (aI ar1 (10 * x51.toInt + (3 : Int))) ∧ (aI ar1 (10 * x51.toInt + (3 : Int))) ≤ 2) ∧ ((aI ar1 (10 * x51.toInt + (0 : Int))) = 1 ∨ (aI ar1 (10 * x51.toInt + (0 : Int))) = 3 ∨ (aI ar1 (10 * x51.toInt + (0 : Int))) = 4 → 0 ≤ (aI ar1 (10 * x51.toInt + (3 : Int)))) := RV.row hR (z_X11_group_14 x51.toInt (aI ar1 (10 * x51.toInt + (0 : Int))) (aI f9 x15.toInt) w52 v55 (xr x51))
              refine xi_ceq (tgt := 101) hx hb (rfl : Int32.toInt x44 = x44.toInt) (rfl : Int32.toInt x51 = x51.toInt) dX11_group_66 (by decide) (fun c57 => ?_) (fun c57 => ?_)
              · exact J101 x14 x15 _ _ _ (z_X11_group_15 u7.toInt x15.toInt x16.toInt N17 (fV ar1 f9 f10) t11 hf18 hf19 hm20 c22 c42 (xr u7) (xr x15) (xr x16)) hT.nil hS (lv_sub hl [0, 1, 2, 3, 4, 5] rfl)
              · exact J69 _ _ _ hT.nil hS (lv_sub hl [0, 1, 2, 3, 4, 5] rfl)
      exact L34 4294967297 0 0 1 _ _ _ (by decide) (by decide) (by decide) hT.nil hS (lv_sub hl [3, 4, 5, 2, 1, 0] rfl)
    · refine lv_iconst (v := (-1)) hx hb dX11_group_20 (by decide) ?_
      exact x_ri hx hb hr hlk hQ (Nat.le_of_ble_eq_true rfl) (Nat.le_of_ble_eq_true rfl) hS dX11_group_21 (0, z3, z4, ar2, ar3, ar4) ⟨_, rfl⟩ hT.nil

theorem z_X11_asked_1 (a0 : Int) (a1 : Int) (h0 : 0 ≤ a1 ∧ a1 ≤ 2400) (h1 : a0 = -1 ∨ (0 ≤ a0 ∧ a0 < a1)) (h2 : a0 ≠ (-1 : Int)) (r0 : -2147483648 ≤ a0 ∧ a0 < 2147483648) (r1 : -2147483648 ≤ a1 ∧ a1 < 2147483648) : 0 ≤ a0 ∧ a0 < ((2400 : Nat) : Int) := by omega
theorem z_X11_asked_2 (a0 : Int) (a1 : Int) (h0 : 0 ≤ a1 ∧ a1 ≤ 2400) (h1 : a0 = -1 ∨ (0 ≤ a0 ∧ a0 < a1)) (h2 : a0 ≠ (-1 : Int)) (r0 : -2147483648 ≤ a0 ∧ a0 < 2147483648) (r1 : -2147483648 ≤ a1 ∧ a1 < 2147483648) : 0 ≤ a0 ∧ a0 < ((2400 : Nat) : Int) := by omega
theorem z_X11_asked_3 (a0 : Int) (a1 : Int) (h0 : 0 ≤ a1 ∧ a1 ≤ 2400) (h1 : a0 = (-1 : Int)) (r0 : -2147483648 ≤ a0 ∧ a0 < 2147483648) (r1 : -2147483648 ≤ a1 ∧ a1 < 2147483648) : a0 = -1 ∨ (0 ≤ a0 ∧ a0 < a1) := by omega
theorem z_X11_asked_4 (a0 : Int) (h0 : 0 ≤ a0 ∧ a0 ≤ 2400) (r0 : -2147483648 ≤ a0 ∧ a0 < 2147483648) : -2147483648 ≤ a0 ∧ a0 < 2147483648 := by omega
theorem z_X11_asked_5 (a0 : Int) (a1 : Int) (a2 : Int) (h0 : 0 ≤ a2 ∧ a2 ≤ 2400) (h1 : ¬ (a0 = (-1 : Int))) (h2 : (a1 = 1 ∧ (0 : Int) ≤ a0 ∧ a0 ≤ (a2 - (1 : Int))) ∨ (a1 = 0 ∧ (a0 < (0 : Int) ∨ (a2 - (1 : Int)) < a0))) (h3 : a1 ≠ 0) (r0 : -2147483648 ≤ a0 ∧ a0 < 2147483648) (r1 : -2147483648 ≤ a1 ∧ a1 < 2147483648) (r2 : -2147483648 ≤ a2 ∧ a2 < 2147483648) : a0 = -1 ∨ (0 ≤ a0 ∧ a0 < a2) := by omega
abbrev rm_X11_asked : Room := { frames := 1, cells := 0, slots := 0, locals := 25 }
set_option maxHeartbeats 4000000 in
set_option maxRecDepth 100000 in
theorem c_X11_asked (l : Launch) (E : XE) (K : Nat → Nat) (F : Nat → Nat → Nat) (tl z0 z1 z2 z3 z4 z5 z6 z7 z8 z9 z10 z11 z12 z13 z14 z15 z16 z17 z18 z19 z20 : Int32) (ar0 ar1 ar2 ar3 ar4 ar5 ar6 ar7 ar8 ar9 ar10 : Nat → Int32) (a : Nat) (p0 : Int32) (p1 : Int32) (ha : K a = 13) (e0 : 0 ≤ z12.toInt ∧ z12.toInt ≤ 2400) : Met l yX11_asked (xw yX11_asked cX11_asked 3 (some .int)) rm_X11_asked (va_Pc [.ref a, .int p0, .int p1] (XP E K F (tl, [z0, z1, z2, z3, z4, z5, z6, z7, z8, z9, z10, z11, z12, z13, z14, z15, z16, z17, z18, z19, z20], [ar0, ar1, ar2, ar3, ar4, ar5, ar6, ar7, ar8, ar9, ar10]))) (XQ E (fun v (u : Int32) => ∃ r : Int32, v = .int r) (fun u H => TW E K F (tl, [u, z1, z2, z3, z4, z5, z6, z7, z8, z9, z10, z11, z12, z13, z14, z15, z16, z17, z18, z19, z20], [ar0, ar1, ar2, ar3, ar4, ar5, ar6, ar7, ar8, ar9, ar10]) [] H)) 0 0 (xA E) := by
  refine x_enter (by decide) (Nat.le_of_ble_eq_true rfl) ?_
  intro p e s m args below meth c Q S hr hlk hnm hQ hP ls hl
  obtain ⟨hz, hK, hT⟩ := hP
  obtain ⟨hx, hb, -, -, -⟩ := id S
  obtain ⟨H, hT, hS, hgo⟩ : ∃ H : Heap, TW E K F (tl, [z0, z1, z2, z3, z4, z5, z6, z7, z8, z9, z10, z11, z12, z13, z14, z15, z16, z17, z18, z19, z20], [ar0, ar1, ar2, ar3, ar4, ar5, ar6, ar7, ar8, ar9, ar10]) [] H ∧ va_S (xA E) s.heap H [] ∧ H = s.heap := ⟨_, hT, va_S.rf, rfl⟩
  rw [← hgo]
  have hl : lv_has ls 3 [(0, .ref a), (1, .int p0), (2, .int p1)] := hl
  refine lv_aload_n hx hb dX11_asked_0 rfl (lv_at hl 0 rfl) ?_
  refine lv_iconst (v := 0) hx hb dX11_asked_1 (by decide) ?_
  refine pX11_0 (kq := []) (v := 0) S hK hT hS ha kf_X11_134 (Nat.le_of_ble_eq_true rfl) dX11_asked_2 (fun _ h => by cases h) (fun H locs hT hS => ?_)
  have hT : TW E K F (tl, [0, z1, z2, z3, z4, z5, z6, z7, z8, z9, z10, z11, z12, z13, z14, z15, z16, z17, z18, z19, z20], [ar0, ar1, ar2, ar3, ar4, ar5, ar6, ar7, ar8, ar9, ar10]) [] H := hT
  refine lv_iload_n hx hb dX11_asked_5 rfl (lv_at hl 2 rfl) ?_
  refine lv_i2l (v := p1.toInt64) hx hb dX11_asked_6 rfl ?_
  refine lv_lconst (v := (0 : Int64)) hx hb dX11_asked_7 (by decide) ?_
  refine lv_ldc2 (v := 2) hx hb S.2.2.2.1 (S.2.2.2.2 _ (List.mem_cons_of_mem _ kc_X11_137)) dX11_asked_8 ?_
  refine x_clp (x_runS (As := [.long p1.toInt64, .long (0 : Int64), .long (2 : Int64)]) (rest := []) S (c_X11_in l E K F tl 0 z1 z2 z3 z4 z5 z6 z7 z8 z9 z10 z11 z12 z13 z14 z15 z16 z17 z18 z19 z20 ar0 ar1 ar2 ar3 ar4 ar5 ar6 ar7 ar8 ar9 ar10 H p1.toInt64 (0 : Int64) (2 : Int64) p1.toInt (0 : Int) (2 : Int) (xl_i2l (rfl : Int32.toInt p1 = p1.toInt)) (by decide) (by decide)) ms_X11_in km_X11_139 rfl rfl ⟨Nat.le_of_ble_eq_true rfl, Nat.le_of_ble_eq_true rfl⟩ hK (fun _ => XPh.blind) (fun U hU hW => XPh.at hK hz hS hT hU hW) rfl hl.1 (Nat.le_of_ble_eq_true rfl) dX11_asked_11 ⟨Nat.le_of_ble_eq_true rfl, Nat.le_of_ble_eq_true rfl⟩) hS ?_
  rintro _ _ locs ⟨x1, rfl, b2, t3⟩ hS
  have t3 : (x1.toInt = 1 ∧ (0 : Int) ≤ p1.toInt ∧ p1.toInt ≤ (2 : Int)) ∨ (x1.toInt = 0 ∧ (p1.toInt < (0 : Int) ∨ (2 : Int) < p1.toInt)) := t3
  refine xi_zeq (tgt := 38) hx hb (rfl : Int32.toInt x1 = x1.toInt) dX11_asked_14 (by decide) (fun c4 => ?_) (fun c4 => ?_)
  · refine lv_iconst (v := (-1)) hx hb dX11_asked_38 (by decide) ?_
    exact x_ri hx hb hr hlk hQ (Nat.le_of_ble_eq_true rfl) (Nat.le_of_ble_eq_true rfl) hS dX11_asked_39 (0) ⟨_, rfl⟩ hT.nil
  · refine lv_iload_n hx hb dX11_asked_17 rfl (lv_at hl 1 rfl) ?_
    refine lv_iconst (v := (-1)) hx hb dX11_asked_18 (by decide) ?_
    have J40 : ∀ (H : Heap) (locs : List Loc) (ls : Array Slot), p0.toInt = -1 ∨ (0 ≤ p0.toInt ∧ p0.toInt < z12.toInt) → TW E K F (tl, [0, z1, z2, z3, z4, z5, z6, z7, z8, z9, z10, z11, z12, z13, z14, z15, z16, z17, z18, z19, z20], [ar0, ar1, ar2, ar3, ar4, ar5, ar6, ar7, ar8, ar9, ar10]) [] H → va_S (xA E) s.heap H locs → lv_has ls 3 [(0, .ref a), (1, .int p0), (2, .int p1)] → W p l e rm_X11_asked s m args below meth c H locs 0 0 Q (F0 m 40 ls []) := by
      intro H locs ls hf5 hT hS hl
      refine lv_iload_n hx hb dX11_asked_40 rfl (lv_at hl 1 rfl) ?_
      refine lv_iconst (v := (-1)) hx hb dX11_asked_41 (by decide) ?_
      refine xi_cne (tgt := 52) hx hb (rfl : Int32.toInt p0 = p0.toInt) ((by decide) : Int32.toInt (-1) = (-1 : Int)) dX11_asked_42 (by decide) (fun c6 => ?_) (fun c6 => ?_)
      · refine lv_iload_n hx hb dX11_asked_52 rfl (lv_at hl 2 rfl) ?_
        refine xi_zne (tgt := 65) hx hb (rfl : Int32.toInt p1 = p1.toInt) dX11_asked_53 (by decide) (fun c7 => ?_) (fun c7 => ?_)
        · refine lv_iload_n hx hb dX11_asked_65 rfl (lv_at hl 2 rfl) ?_
          refine lv_iconst (v := 1) hx hb dX11_asked_66 (by decide) ?_
          refine xi_cne (tgt := 79) hx hb (rfl : Int32.toInt p1 = p1.toInt) ((by decide) : Int32.toInt 1 = (1 : Int)) dX11_asked_67 (by decide) (fun c8 => ?_) (fun c8 => ?_)
          · refine lv_iload_n hx hb dX11_asked_79 rfl (lv_at hl 1 rfl) ?_
            refine lv_aload_n hx hb dX11_asked_80 rfl (lv_at hl 0 rfl) ?_
            refine gX11_44 S hK hT ha kf_X11_115 dX11_asked_81 (v := z13) rfl ?_
            refine xi_cne (tgt := 91) hx hb (rfl : Int32.toInt p0 = p0.toInt) (rfl : Int32.toInt z13 = z13.toInt) dX11_asked_84 (by decide) (fun c9 => ?_) (fun c9 => ?_)
            · refine lv_iconst (v := 0) hx hb dX11_asked_91 (by decide) ?_
              exact x_ri hx hb hr hlk hQ (Nat.le_of_ble_eq_true rfl) (Nat.le_of_ble_eq_true rfl) hS dX11_asked_92 (0) ⟨_, rfl⟩ hT.nil
            · refine lv_iconst (v := 1) hx hb dX11_asked_87 (by decide) ?_
              refine lv_goto (tgt := 92) hx hb dX11_asked_88 (by decide) ?_
              exact x_ri hx hb hr hlk hQ (Nat.le_of_ble_eq_true rfl) (Nat.le_of_ble_eq_true rfl) hS dX11_asked_92 (0) ⟨_, rfl⟩ hT.nil
          · refine lv_aload_n hx hb dX11_asked_70 rfl (lv_at hl 0 rfl) ?_
            refine gX11_42 S hK hT ha kf_X11_112 dX11_asked_71 (fun hk10 => ?_)
            refine lv_iload_n hx hb dX11_asked_74 rfl (lv_at hl 1 rfl) ?_
            refine al_0 S hK hT hk10 ar_54 (by decide) (z_X11_asked_1 p0.toInt z12.toInt e0 hf5 c6 (xr p0) (xr z12)) dX11_asked_75 (fun x11 o12 => ?_)
            refine lv_goto (tgt := 92) hx hb dX11_asked_76 (by decide) ?_
            exact x_ri hx hb hr hlk hQ (Nat.le_of_ble_eq_true rfl) (Nat.le_of_ble_eq_true rfl) hS dX11_asked_92 (0) ⟨_, rfl⟩ hT.nil
        · refine lv_aload_n hx hb dX11_asked_56 rfl (lv_at hl 0 rfl) ?_
          refine gX11_41 S hK hT ha kf_X11_109 dX11_asked_57 (fun hk13 => ?_)
          refine lv_iload_n hx hb dX11_asked_60 rfl (lv_at hl 1 rfl) ?_
          refine al_0 S hK hT hk13 ar_53 (by decide) (z_X11_asked_2 p0.toInt z12.toInt e0 hf5 c6 (xr p0) (xr z12)) dX11_asked_61 (fun x14 o15 => ?_)
          refine lv_goto (tgt := 92) hx hb dX11_asked_62 (by decide) ?_
          exact x_ri hx hb hr hlk hQ (Nat.le_of_ble_eq_true rfl) (Nat.le_of_ble_eq_true rfl) hS dX11_asked_92 (0) ⟨_, rfl⟩ hT.nil
      · refine lv_aload_n hx hb dX11_asked_45 rfl (lv_at hl 0 rfl) ?_
        refine gX11_43 S hK hT ha kf_X11_340 dX11_asked_46 (v := z12) rfl ?_
        refine lv_goto (tgt := 92) hx hb dX11_asked_49 (by decide) ?_
        exact x_ri hx hb hr hlk hQ (Nat.le_of_ble_eq_true rfl) (Nat.le_of_ble_eq_true rfl) hS dX11_asked_92 (0) ⟨_, rfl⟩ hT.nil
    refine xi_ceq (tgt := 40) hx hb (rfl : Int32.toInt p0 = p0.toInt) ((by decide) : Int32.toInt (-1) = (-1 : Int)) dX11_asked_19 (by decide) (fun c16 => ?_) (fun c16 => ?_)
    · exact J40 _ _ _ (z_X11_asked_3 p0.toInt z12.toInt e0 c16 (xr p0) (xr z12)) hT.nil hS (lv_sub hl [0, 1, 2] rfl)
    · refine lv_iload_n hx hb dX11_asked_22 rfl (lv_at hl 1 rfl) ?_
      refine lv_i2l (v := p0.toInt64) hx hb dX11_asked_23 rfl ?_
      refine lv_lconst (v := (0 : Int64)) hx hb dX11_asked_24 (by decide) ?_
      refine lv_aload_n hx hb dX11_asked_25 rfl (lv_at hl 0 rfl) ?_
      refine gX11_43 S hK hT ha kf_X11_340 dX11_asked_26 (v := z12) rfl ?_
      refine lv_i2l (v := z12.toInt64) hx hb dX11_asked_29 rfl ?_
      refine lv_lconst (v := (1 : Int64)) hx hb dX11_asked_30 (by decide) ?_
      refine lv_lsub hx hb dX11_asked_31 (lv_topl (fun y17 hy18 => ?_))
      have hy18 : y17.toInt = z12.toInt - (1 : Int) := xl_sub (xl_i2l (rfl : Int32.toInt z12 = z12.toInt)) (by decide) (z_X11_asked_4 z12.toInt e0 (xr z12)) (by decide) hy18
      refine x_clp (x_runS (As := [.long p0.toInt64, .long (0 : Int64), .long y17]) (rest := []) S (c_X11_in l E K F tl 0 z1 z2 z3 z4 z5 z6 z7 z8 z9 z10 z11 z12 z13 z14 z15 z16 z17 z18 z19 z20 ar0 ar1 ar2 ar3 ar4 ar5 ar6 ar7 ar8 ar9 ar10 H p0.toInt64 (0 : Int64) y17 p0.toInt (0 : Int) (z12.toInt - (1 : Int)) (xl_i2l (rfl : Int32.toInt p0 = p0.toInt)) (by decide) hy18) ms_X11_in km_X11_139 rfl rfl ⟨Nat.le_of_ble_eq_true rfl, Nat.le_of_ble_eq_true rfl⟩ hK (fun _ => XPh.blind) (fun U hU hW => XPh.at hK hz hS hT hU hW) rfl hl.1 (Nat.le_of_ble_eq_true rfl) dX11_asked_32 ⟨Nat.le_of_ble_eq_true rfl, Nat.le_of_ble_eq_true rfl⟩) hS ?_
      rintro _ _ locs ⟨x19, rfl, b20, t21⟩ hS
      have t21 : (x19.toInt = 1 ∧ (0 : Int) ≤ p0.toInt ∧ p0.toInt ≤ (z12.toInt - (1 : Int))) ∨ (x19.toInt = 0 ∧ (p0.toInt < (0 : Int) ∨ (z12.toInt - (1 : Int)) < p0.toInt)) := t21
      refine xi_zne (tgt := 40) hx hb (rfl : Int32.toInt x19 = x19.toInt) dX11_asked_35 (by decide) (fun c22 => ?_) (fun c22 => ?_)
      · exact J40 _ _ _ (z_X11_asked_5 p0.toInt x19.toInt z12.toInt e0 c16 t21 c22 (xr p0) (xr x19) (xr z12)) hT.nil hS (lv_sub hl [0, 1, 2] rfl)
      · refine lv_iconst (v := (-1)) hx hb dX11_asked_38 (by decide) ?_
        exact x_ri hx hb hr hlk hQ (Nat.le_of_ble_eq_true rfl) (Nat.le_of_ble_eq_true rfl) hS dX11_asked_39 (0) ⟨_, rfl⟩ hT.nil

theorem z_X11_fresh_1 (a0 : Int) (a1 : Int) (a2 : Int) (a3 : Int) (h0 : 0 ≤ a3 ∧ a3 ≤ 8) (h1 : a2 = 0 ∨ (a2 = 1 ∧ 0 ≤ a0 ∧ a0 < a3)) (h2 : a2 = 0 ∨ a2 = 1) (h3 : ¬ (a2 = 0)) (h4 : a1 = (360 : Int) * a0 ∨ (360 : Int) * a0 < -2147483648 ∨ 2147483648 ≤ (360 : Int) * a0) (r0 : -2147483648 ≤ a0 ∧ a0 < 2147483648) (r1 : -2147483648 ≤ a1 ∧ a1 < 2147483648) (r2 : -2147483648 ≤ a2 ∧ a2 < 2147483648) (r3 : -2147483648 ≤ a3 ∧ a3 < 2147483648) : 0 ≤ a1 ∧ a1 ≤ 2520 := by omega
theorem z_X11_fresh_2 (a0 : Int) (h0 : (0 : Int) ≤ a0) (r0 : -2147483648 ≤ a0 ∧ a0 < 2147483648) : ¬ (2147483648 - a0 < ((0 : Nat) : Int)) := by omega
theorem z_X11_fresh_3 (a0 : Int) (a1 : Int) (a2 : Int) (a3 : Nat) (a4 : Int) (h0 : (0 : Int) ≤ a0) (h1 : 2147483648 - a0 < ((a3 + 1 : Nat) : Int)) (h2 : ¬ ((12 : Int) ≤ a0)) (h3 : a1 = 0 ∨ (a1 = 1 ∧ 0 ≤ a0 ∧ a0 ≤ 11 ∧ 0 ≤ a4)) (h4 : a1 = 0 ∨ a1 = 1) (h5 : a2 = a0 + 1 ∨ a0 + 1 < -2147483648 ∨ 2147483648 ≤ a0 + 1) (r0 : -2147483648 ≤ a0 ∧ a0 < 2147483648) (r1 : -2147483648 ≤ a1 ∧ a1 < 2147483648) (r2 : -2147483648 ≤ a2 ∧ a2 < 2147483648) : (0 : Int) ≤ a2 := by omega
theorem z_X11_fresh_4 (a0 : Int) (a1 : Int) (a2 : Int) (a3 : Nat) (a4 : Int) (h0 : (0 : Int) ≤ a0) (h1 : 2147483648 - a0 < ((a3 + 1 : Nat) : Int)) (h2 : ¬ ((12 : Int) ≤ a0)) (h3 : a1 = 0 ∨ (a1 = 1 ∧ 0 ≤ a0 ∧ a0 ≤ 11 ∧ 0 ≤ a4)) (h4 : a1 = 0 ∨ a1 = 1) (h5 : a2 = a0 + 1 ∨ a0 + 1 < -2147483648 ∨ 2147483648 ≤ a0 + 1) (r0 : -2147483648 ≤ a0 ∧ a0 < 2147483648) (r1 : -2147483648 ≤ a1 ∧ a1 < 2147483648) (r2 : -2147483648 ≤ a2 ∧ a2 < 2147483648) : 2147483648 - a2 < ((a3 : Nat) : Int) := by omega
theorem z_X11_fresh_5 (a0 : Int) (a1 : Int) (a2 : Nat) (a3 : Int) (h0 : (0 : Int) ≤ a0) (h1 : 2147483648 - a0 < ((a2 + 1 : Nat) : Int)) (h2 : ¬ ((12 : Int) ≤ a0)) (h3 : a1 = 0 ∨ (a1 = 1 ∧ 0 ≤ a0 ∧ a0 ≤ 11 ∧ 0 ≤ a3)) (h4 : a1 = 0 ∨ a1 = 1) (h5 : ¬ (a1 = 0)) (r0 : -2147483648 ≤ a0 ∧ a0 < 2147483648) (r1 : -2147483648 ≤ a1 ∧ a1 < 2147483648) : 0 ≤ a0 ∧ a0 ≤ 11 := by omega
theorem z_X11_fresh_6 (a0 : Int) (a1 : Int) (a2 : Nat) (a3 : Int) (h0 : (0 : Int) ≤ a0) (h1 : 2147483648 - a0 < ((a2 + 1 : Nat) : Int)) (h2 : ¬ ((12 : Int) ≤ a0)) (h3 : a1 = 0 ∨ (a1 = 1 ∧ 0 ≤ a0 ∧ a0 ≤ 11 ∧ 0 ≤ a3)) (h4 : a1 = 0 ∨ a1 = 1) (h5 : ¬ (a1 = 0)) (r0 : -2147483648 ≤ a0 ∧ a0 < 2147483648) (r1 : -2147483648 ≤ a1 ∧ a1 < 2147483648) : 0 ≤ a0 ∧ a0 ≤ 11 := by omega
theorem z_X11_fresh_7 (a0 : Int) (a1 : Int) (a2 : Nat) (a3 : Int) (a4 : Int) (a5 : Int) (a6 : Int) (h0 : (0 : Int) ≤ a0) (h1 : 2147483648 - a0 < ((a2 + 1 : Nat) : Int)) (h2 : ¬ ((12 : Int) ≤ a0)) (h3 : a1 = 0 ∨ (a1 = 1 ∧ 0 ≤ a0 ∧ a0 ≤ 11 ∧ 0 ≤ a3)) (h4 : a1 = 0 ∨ a1 = 1) (h5 : ¬ (a1 = 0)) (h6 : (-1 ≤ a3 ∧ a3 ≤ 5) ∧ (0 ≤ a4 ∧ a4 ≤ 2) ∧ (0 ≤ a5 ∧ a5 ≤ 2) ∧ (-1 ≤ a6 ∧ a6 ≤ 2) ∧ (a3 = 1 ∨ a3 = 3 ∨ a3 = 4 → 0 ≤ a6)) (r0 : -2147483648 ≤ a0 ∧ a0 < 2147483648) (r1 : -2147483648 ≤ a1 ∧ a1 < 2147483648) : 0 ≤ a0 ∧ a0 ≤ 11 := by omega
theorem z_X11_fresh_8 (a0 : Int) (a1 : Int) (a2 : Int) (a3 : Int) (a4 : Nat) (a5 : Int) (a6 : Int) (a7 : Int) (a8 : Int) (h0 : -99 ≤ a3 ∧ a3 ≤ 100 ∧ (a5 = 2 ∨ a5 = 4 ∨ a5 = 5 → 0 ≤ a3 ∧ a3 ≤ 30)) (h1 : (0 : Int) ≤ a0) (h2 : 2147483648 - a0 < ((a4 + 1 : Nat) : Int)) (h3 : ¬ ((12 : Int) ≤ a0)) (h4 : a1 = 0 ∨ (a1 = 1 ∧ 0 ≤ a0 ∧ a0 ≤ 11 ∧ 0 ≤ a5)) (h5 : a1 = 0 ∨ a1 = 1) (h6 : ¬ (a1 = 0)) (h7 : (-1 ≤ a5 ∧ a5 ≤ 5) ∧ (0 ≤ a6 ∧ a6 ≤ 2) ∧ (0 ≤ a7 ∧ a7 ≤ 2) ∧ (-1 ≤ a8 ∧ a8 ≤ 2) ∧ (a5 = 1 ∨ a5 = 3 ∨ a5 = 4 → 0 ≤ a8)) (h8 : ((a5 = 2 ∨ a5 = 4 ∨ a5 = 5) ∧ a2 = 0) ∨ (a5 ≠ 2 ∧ a5 ≠ 4 ∧ a5 ≠ 5 ∧ a2 = -99)) (r0 : -2147483648 ≤ a0 ∧ a0 < 2147483648) (r1 : -2147483648 ≤ a1 ∧ a1 < 2147483648) (r2 : -2147483648 ≤ a2 ∧ a2 < 2147483648) (r3 : -2147483648 ≤ a3 ∧ a3 < 2147483648) : ¬ (2147483648 - a3 < ((0 : Nat) : Int)) := by omega
theorem z_X11_fresh_9 (a0 : Int) (a1 : Int) (a2 : Int) (a3 : Int) (a4 : Nat) (a5 : Nat) (a6 : Int) (a7 : Int) (a8 : Int) (a9 : Int) (h0 : (0 : Int) ≤ a0) (h1 : 2147483648 - a0 < ((a4 + 1 : Nat) : Int)) (h2 : ¬ ((12 : Int) ≤ a0)) (h3 : a1 = 0 ∨ (a1 = 1 ∧ 0 ≤ a0 ∧ a0 ≤ 11 ∧ 0 ≤ a6)) (h4 : a1 = 0 ∨ a1 = 1) (h5 : ¬ (a1 = 0)) (h6 : (-1 ≤ a6 ∧ a6 ≤ 5) ∧ (0 ≤ a7 ∧ a7 ≤ 2) ∧ (0 ≤ a8 ∧ a8 ≤ 2) ∧ (-1 ≤ a9 ∧ a9 ≤ 2) ∧ (a6 = 1 ∨ a6 = 3 ∨ a6 = 4 → 0 ≤ a9)) (h7 : ((a6 = 2 ∨ a6 = 4 ∨ a6 = 5) ∧ a2 = 0) ∨ (a6 ≠ 2 ∧ a6 ≠ 4 ∧ a6 ≠ 5 ∧ a2 = -99)) (h8 : -99 ≤ a3 ∧ a3 ≤ 100 ∧ (a6 = 2 ∨ a6 = 4 ∨ a6 = 5 → 0 ≤ a3 ∧ a3 ≤ 30)) (h9 : 2147483648 - a3 < ((a5 + 1 : Nat) : Int)) (r0 : -2147483648 ≤ a0 ∧ a0 < 2147483648) (r1 : -2147483648 ≤ a1 ∧ a1 < 2147483648) (r2 : -2147483648 ≤ a2 ∧ a2 < 2147483648) (r3 : -2147483648 ≤ a3 ∧ a3 < 2147483648) : 0 ≤ a0 ∧ a0 ≤ 11 := by omega
theorem z_X11_fresh_10 (a0 : Int) (a1 : Int) (a2 : Int) (a3 : Int) (a4 : Int) (a5 : Int) (a6 : Nat) (a7 : Nat) (a8 : Int) (a9 : Int) (a10 : Int) (a11 : Int) (h0 : (0 : Int) ≤ a0) (h1 : 2147483648 - a0 < ((a6 + 1 : Nat) : Int)) (h2 : ¬ ((12 : Int) ≤ a0)) (h3 : a1 = 0 ∨ (a1 = 1 ∧ 0 ≤ a0 ∧ a0 ≤ 11 ∧ 0 ≤ a8)) (h4 : a1 = 0 ∨ a1 = 1) (h5 : ¬ (a1 = 0)) (h6 : (-1 ≤ a8 ∧ a8 ≤ 5) ∧ (0 ≤ a9 ∧ a9 ≤ 2) ∧ (0 ≤ a10 ∧ a10 ≤ 2) ∧ (-1 ≤ a11 ∧ a11 ≤ 2) ∧ (a8 = 1 ∨ a8 = 3 ∨ a8 = 4 → 0 ≤ a11)) (h7 : ((a8 = 2 ∨ a8 = 4 ∨ a8 = 5) ∧ a2 = 0) ∨ (a8 ≠ 2 ∧ a8 ≠ 4 ∧ a8 ≠ 5 ∧ a2 = -99)) (h8 : -99 ≤ a3 ∧ a3 ≤ 100 ∧ (a8 = 2 ∨ a8 = 4 ∨ a8 = 5 → 0 ≤ a3 ∧ a3 ≤ 30)) (h9 : 2147483648 - a3 < ((a7 + 1 : Nat) : Int)) (h10 : ((a8 = 2 ∨ a8 = 4 ∨ a8 = 5) ∧ a4 = 29) ∨ (a8 ≠ 2 ∧ a8 ≠ 4 ∧ a8 ≠ 5 ∧ a4 = 99)) (h11 : ¬ (a4 < a3)) (h12 : 0 ≤ a0 ∧ a0 ≤ 11 ∧ -99 ≤ a3 ∧ a3 ≤ 99 → a5 = 199 * a0 + a3 + 99) (r0 : -2147483648 ≤ a0 ∧ a0 < 2147483648) (r1 : -2147483648 ≤ a1 ∧ a1 < 2147483648) (r2 : -2147483648 ≤ a2 ∧ a2 < 2147483648) (r3 : -2147483648 ≤ a3 ∧ a3 < 2147483648) (r4 : -2147483648 ≤ a4 ∧ a4 < 2147483648) (r5 : -2147483648 ≤ a5 ∧ a5 < 2147483648) : 0 ≤ a5 ∧ a5 < ((2388 : Nat) : Int) := by omega
theorem z_X11_fresh_11 (a0 : Int) (a1 : Int) (a2 : Int) (a3 : Int) (a4 : Int) (a5 : Int) (a6 : Nat) (a7 : Nat) (a8 : Int) (a9 : Int) (a10 : Int) (a11 : Int) (h0 : (0 : Int) ≤ a0) (h1 : 2147483648 - a0 < ((a6 + 1 : Nat) : Int)) (h2 : ¬ ((12 : Int) ≤ a0)) (h3 : a1 = 0 ∨ (a1 = 1 ∧ 0 ≤ a0 ∧ a0 ≤ 11 ∧ 0 ≤ a8)) (h4 : a1 = 0 ∨ a1 = 1) (h5 : ¬ (a1 = 0)) (h6 : (-1 ≤ a8 ∧ a8 ≤ 5) ∧ (0 ≤ a9 ∧ a9 ≤ 2) ∧ (0 ≤ a10 ∧ a10 ≤ 2) ∧ (-1 ≤ a11 ∧ a11 ≤ 2) ∧ (a8 = 1 ∨ a8 = 3 ∨ a8 = 4 → 0 ≤ a11)) (h7 : ((a8 = 2 ∨ a8 = 4 ∨ a8 = 5) ∧ a2 = 0) ∨ (a8 ≠ 2 ∧ a8 ≠ 4 ∧ a8 ≠ 5 ∧ a2 = -99)) (h8 : -99 ≤ a3 ∧ a3 ≤ 100 ∧ (a8 = 2 ∨ a8 = 4 ∨ a8 = 5 → 0 ≤ a3 ∧ a3 ≤ 30)) (h9 : 2147483648 - a3 < ((a7 + 1 : Nat) : Int)) (h10 : ((a8 = 2 ∨ a8 = 4 ∨ a8 = 5) ∧ a4 = 29) ∨ (a8 ≠ 2 ∧ a8 ≠ 4 ∧ a8 ≠ 5 ∧ a4 = 99)) (h11 : ¬ (a4 < a3)) (h12 : 0 ≤ a0 ∧ a0 ≤ 11 ∧ -99 ≤ a3 ∧ a3 ≤ 99 → a5 = 199 * a0 + a3 + 99) (r0 : -2147483648 ≤ a0 ∧ a0 < 2147483648) (r1 : -2147483648 ≤ a1 ∧ a1 < 2147483648) (r2 : -2147483648 ≤ a2 ∧ a2 < 2147483648) (r3 : -2147483648 ≤ a3 ∧ a3 < 2147483648) (r4 : -2147483648 ≤ a4 ∧ a4 < 2147483648) (r5 : -2147483648 ≤ a5 ∧ a5 < 2147483648) : 0 ≤ a5 ∧ a5 < ((2388 : Nat) : Int) := by omega
theorem z_X11_fresh_12 (a0 : Int) (a1 : Int) (a2 : Int) (a3 : Int) (a4 : Int) (a5 : Int) (a6 : Int) (a7 : Nat) (a8 : Nat) (a9 : Int) (a10 : Int) (a11 : Int) (a12 : Int) (h0 : (0 : Int) ≤ a0) (h1 : 2147483648 - a0 < ((a7 + 1 : Nat) : Int)) (h2 : ¬ ((12 : Int) ≤ a0)) (h3 : a1 = 0 ∨ (a1 = 1 ∧ 0 ≤ a0 ∧ a0 ≤ 11 ∧ 0 ≤ a9)) (h4 : a1 = 0 ∨ a1 = 1) (h5 : ¬ (a1 = 0)) (h6 : (-1 ≤ a9 ∧ a9 ≤ 5) ∧ (0 ≤ a10 ∧ a10 ≤ 2) ∧ (0 ≤ a11 ∧ a11 ≤ 2) ∧ (-1 ≤ a12 ∧ a12 ≤ 2) ∧ (a9 = 1 ∨ a9 = 3 ∨ a9 = 4 → 0 ≤ a12)) (h7 : ((a9 = 2 ∨ a9 = 4 ∨ a9 = 5) ∧ a2 = 0) ∨ (a9 ≠ 2 ∧ a9 ≠ 4 ∧ a9 ≠ 5 ∧ a2 = -99)) (h8 : -99 ≤ a3 ∧ a3 ≤ 100 ∧ (a9 = 2 ∨ a9 = 4 ∨ a9 = 5 → 0 ≤ a3 ∧ a3 ≤ 30)) (h9 : 2147483648 - a3 < ((a8 + 1 : Nat) : Int)) (h10 : ((a9 = 2 ∨ a9 = 4 ∨ a9 = 5) ∧ a4 = 29) ∨ (a9 ≠ 2 ∧ a9 ≠ 4 ∧ a9 ≠ 5 ∧ a4 = 99)) (h11 : ¬ (a4 < a3)) (h12 : 0 ≤ a0 ∧ a0 ≤ 11 ∧ -99 ≤ a3 ∧ a3 ≤ 99 → a5 = 199 * a0 + a3 + 99) (h13 : a6 = a3 + 1 ∨ a3 + 1 < -2147483648 ∨ 2147483648 ≤ a3 + 1) (r0 : -2147483648 ≤ a0 ∧ a0 < 2147483648) (r1 : -2147483648 ≤ a1 ∧ a1 < 2147483648) (r2 : -2147483648 ≤ a2 ∧ a2 < 2147483648) (r3 : -2147483648 ≤ a3 ∧ a3 < 2147483648) (r4 : -2147483648 ≤ a4 ∧ a4 < 2147483648) (r5 : -2147483648 ≤ a5 ∧ a5 < 2147483648) (r6 : -2147483648 ≤ a6 ∧ a6 < 2147483648) : -99 ≤ a6 ∧ a6 ≤ 100 ∧ (a9 = 2 ∨ a9 = 4 ∨ a9 = 5 → 0 ≤ a6 ∧ a6 ≤ 30) := by omega
theorem z_X11_fresh_13 (a0 : Int) (a1 : Int) (a2 : Int) (a3 : Int) (a4 : Int) (a5 : Int) (a6 : Int) (a7 : Nat) (a8 : Nat) (a9 : Int) (a10 : Int) (a11 : Int) (a12 : Int) (h0 : (0 : Int) ≤ a0) (h1 : 2147483648 - a0 < ((a7 + 1 : Nat) : Int)) (h2 : ¬ ((12 : Int) ≤ a0)) (h3 : a1 = 0 ∨ (a1 = 1 ∧ 0 ≤ a0 ∧ a0 ≤ 11 ∧ 0 ≤ a9)) (h4 : a1 = 0 ∨ a1 = 1) (h5 : ¬ (a1 = 0)) (h6 : (-1 ≤ a9 ∧ a9 ≤ 5) ∧ (0 ≤ a10 ∧ a10 ≤ 2) ∧ (0 ≤ a11 ∧ a11 ≤ 2) ∧ (-1 ≤ a12 ∧ a12 ≤ 2) ∧ (a9 = 1 ∨ a9 = 3 ∨ a9 = 4 → 0 ≤ a12)) (h7 : ((a9 = 2 ∨ a9 = 4 ∨ a9 = 5) ∧ a2 = 0) ∨ (a9 ≠ 2 ∧ a9 ≠ 4 ∧ a9 ≠ 5 ∧ a2 = -99)) (h8 : -99 ≤ a3 ∧ a3 ≤ 100 ∧ (a9 = 2 ∨ a9 = 4 ∨ a9 = 5 → 0 ≤ a3 ∧ a3 ≤ 30)) (h9 : 2147483648 - a3 < ((a8 + 1 : Nat) : Int)) (h10 : ((a9 = 2 ∨ a9 = 4 ∨ a9 = 5) ∧ a4 = 29) ∨ (a9 ≠ 2 ∧ a9 ≠ 4 ∧ a9 ≠ 5 ∧ a4 = 99)) (h11 : ¬ (a4 < a3)) (h12 : 0 ≤ a0 ∧ a0 ≤ 11 ∧ -99 ≤ a3 ∧ a3 ≤ 99 → a5 = 199 * a0 + a3 + 99) (h13 : a6 = a3 + 1 ∨ a3 + 1 < -2147483648 ∨ 2147483648 ≤ a3 + 1) (r0 : -2147483648 ≤ a0 ∧ a0 < 2147483648) (r1 : -2147483648 ≤ a1 ∧ a1 < 2147483648) (r2 : -2147483648 ≤ a2 ∧ a2 < 2147483648) (r3 : -2147483648 ≤ a3 ∧ a3 < 2147483648) (r4 : -2147483648 ≤ a4 ∧ a4 < 2147483648) (r5 : -2147483648 ≤ a5 ∧ a5 < 2147483648) (r6 : -2147483648 ≤ a6 ∧ a6 < 2147483648) : 2147483648 - a6 < ((a8 : Nat) : Int) := by omega
theorem z_X11_fresh_14 (a0 : Int) (a1 : Int) (a2 : Int) (a3 : Int) (a4 : Int) (a5 : Int) (a6 : Nat) (a7 : Nat) (a8 : Int) (a9 : Int) (a10 : Int) (a11 : Int) (h0 : (0 : Int) ≤ a0) (h1 : 2147483648 - a0 < ((a6 + 1 : Nat) : Int)) (h2 : ¬ ((12 : Int) ≤ a0)) (h3 : a1 = 0 ∨ (a1 = 1 ∧ 0 ≤ a0 ∧ a0 ≤ 11 ∧ 0 ≤ a8)) (h4 : a1 = 0 ∨ a1 = 1) (h5 : ¬ (a1 = 0)) (h6 : (-1 ≤ a8 ∧ a8 ≤ 5) ∧ (0 ≤ a9 ∧ a9 ≤ 2) ∧ (0 ≤ a10 ∧ a10 ≤ 2) ∧ (-1 ≤ a11 ∧ a11 ≤ 2) ∧ (a8 = 1 ∨ a8 = 3 ∨ a8 = 4 → 0 ≤ a11)) (h7 : ((a8 = 2 ∨ a8 = 4 ∨ a8 = 5) ∧ a2 = 0) ∨ (a8 ≠ 2 ∧ a8 ≠ 4 ∧ a8 ≠ 5 ∧ a2 = -99)) (h8 : -99 ≤ a3 ∧ a3 ≤ 100 ∧ (a8 = 2 ∨ a8 = 4 ∨ a8 = 5 → 0 ≤ a3 ∧ a3 ≤ 30)) (h9 : 2147483648 - a3 < ((a7 + 1 : Nat) : Int)) (h10 : ((a8 = 2 ∨ a8 = 4 ∨ a8 = 5) ∧ a4 = 29) ∨ (a8 ≠ 2 ∧ a8 ≠ 4 ∧ a8 ≠ 5 ∧ a4 = 99)) (h11 : ¬ (a4 < a3)) (h12 : 0 ≤ a0 ∧ a0 ≤ 11 ∧ -99 ≤ a3 ∧ a3 ≤ 99 → a5 = 199 * a0 + a3 + 99) (r0 : -2147483648 ≤ a0 ∧ a0 < 2147483648) (r1 : -2147483648 ≤ a1 ∧ a1 < 2147483648) (r2 : -2147483648 ≤ a2 ∧ a2 < 2147483648) (r3 : -2147483648 ≤ a3 ∧ a3 < 2147483648) (r4 : -2147483648 ≤ a4 ∧ a4 < 2147483648) (r5 : -2147483648 ≤ a5 ∧ a5 < 2147483648) : 0 ≤ a5 ∧ a5 < ((2388 : Nat) : Int) := by omega
theorem z_X11_fresh_15 (a0 : Int) (a1 : Int) (a2 : Int) (a3 : Int) (a4 : Int) (a5 : Int) (a6 : Nat) (a7 : Nat) (a8 : Int) (a9 : Int) (a10 : Int) (a11 : Int) (h0 : (0 : Int) ≤ a0) (h1 : 2147483648 - a0 < ((a6 + 1 : Nat) : Int)) (h2 : ¬ ((12 : Int) ≤ a0)) (h3 : a1 = 0 ∨ (a1 = 1 ∧ 0 ≤ a0 ∧ a0 ≤ 11 ∧ 0 ≤ a8)) (h4 : a1 = 0 ∨ a1 = 1) (h5 : ¬ (a1 = 0)) (h6 : (-1 ≤ a8 ∧ a8 ≤ 5) ∧ (0 ≤ a9 ∧ a9 ≤ 2) ∧ (0 ≤ a10 ∧ a10 ≤ 2) ∧ (-1 ≤ a11 ∧ a11 ≤ 2) ∧ (a8 = 1 ∨ a8 = 3 ∨ a8 = 4 → 0 ≤ a11)) (h7 : ((a8 = 2 ∨ a8 = 4 ∨ a8 = 5) ∧ a2 = 0) ∨ (a8 ≠ 2 ∧ a8 ≠ 4 ∧ a8 ≠ 5 ∧ a2 = -99)) (h8 : -99 ≤ a3 ∧ a3 ≤ 100 ∧ (a8 = 2 ∨ a8 = 4 ∨ a8 = 5 → 0 ≤ a3 ∧ a3 ≤ 30)) (h9 : 2147483648 - a3 < ((a7 + 1 : Nat) : Int)) (h10 : ((a8 = 2 ∨ a8 = 4 ∨ a8 = 5) ∧ a4 = 29) ∨ (a8 ≠ 2 ∧ a8 ≠ 4 ∧ a8 ≠ 5 ∧ a4 = 99)) (h11 : ¬ (a4 < a3)) (h12 : 0 ≤ a0 ∧ a0 ≤ 11 ∧ -99 ≤ a3 ∧ a3 ≤ 99 → a5 = 199 * a0 + a3 + 99) (r0 : -2147483648 ≤ a0 ∧ a0 < 2147483648) (r1 : -2147483648 ≤ a1 ∧ a1 < 2147483648) (r2 : -2147483648 ≤ a2 ∧ a2 < 2147483648) (r3 : -2147483648 ≤ a3 ∧ a3 < 2147483648) (r4 : -2147483648 ≤ a4 ∧ a4 < 2147483648) (r5 : -2147483648 ≤ a5 ∧ a5 < 2147483648) : 0 ≤ a5 ∧ a5 < ((2388 : Nat) : Int) := by omega
theorem z_X11_fresh_16 (a0 : Int) (a1 : Int) (a2 : Int) (a3 : Int) (a4 : Int) (a5 : Int) (a6 : Nat) (a7 : Nat) (a8 : Int) (a9 : Int) (a10 : Int) (a11 : Int) (h0 : (0 : Int) ≤ a0) (h1 : 2147483648 - a0 < ((a6 + 1 : Nat) : Int)) (h2 : ¬ ((12 : Int) ≤ a0)) (h3 : a1 = 0 ∨ (a1 = 1 ∧ 0 ≤ a0 ∧ a0 ≤ 11 ∧ 0 ≤ a8)) (h4 : a1 = 0 ∨ a1 = 1) (h5 : ¬ (a1 = 0)) (h6 : (-1 ≤ a8 ∧ a8 ≤ 5) ∧ (0 ≤ a9 ∧ a9 ≤ 2) ∧ (0 ≤ a10 ∧ a10 ≤ 2) ∧ (-1 ≤ a11 ∧ a11 ≤ 2) ∧ (a8 = 1 ∨ a8 = 3 ∨ a8 = 4 → 0 ≤ a11)) (h7 : ((a8 = 2 ∨ a8 = 4 ∨ a8 = 5) ∧ a2 = 0) ∨ (a8 ≠ 2 ∧ a8 ≠ 4 ∧ a8 ≠ 5 ∧ a2 = -99)) (h8 : -99 ≤ a3 ∧ a3 ≤ 100 ∧ (a8 = 2 ∨ a8 = 4 ∨ a8 = 5 → 0 ≤ a3 ∧ a3 ≤ 30)) (h9 : 2147483648 - a3 < ((a7 + 1 : Nat) : Int)) (h10 : ((a8 = 2 ∨ a8 = 4 ∨ a8 = 5) ∧ a4 = 29) ∨ (a8 ≠ 2 ∧ a8 ≠ 4 ∧ a8 ≠ 5 ∧ a4 = 99)) (h11 : ¬ (a4 < a3)) (h12 : 0 ≤ a0 ∧ a0 ≤ 11 ∧ -99 ≤ a3 ∧ a3 ≤ 99 → a5 = 199 * a0 + a3 + 99) (r0 : -2147483648 ≤ a0 ∧ a0 < 2147483648) (r1 : -2147483648 ≤ a1 ∧ a1 < 2147483648) (r2 : -2147483648 ≤ a2 ∧ a2 < 2147483648) (r3 : -2147483648 ≤ a3 ∧ a3 < 2147483648) (r4 : -2147483648 ≤ a4 ∧ a4 < 2147483648) (r5 : -2147483648 ≤ a5 ∧ a5 < 2147483648) : 0 ≤ a5 ∧ a5 < ((2388 : Nat) : Int) := by omega
theorem z_X11_fresh_17 (a0 : Int) (a1 : Int) (a2 : Int) (a3 : Int) (a4 : Int) (a5 : Int) (a6 : Nat) (a7 : Nat) (a8 : Int) (a9 : Int) (a10 : Int) (a11 : Int) (h0 : (0 : Int) ≤ a0) (h1 : 2147483648 - a0 < ((a6 + 1 : Nat) : Int)) (h2 : ¬ ((12 : Int) ≤ a0)) (h3 : a1 = 0 ∨ (a1 = 1 ∧ 0 ≤ a0 ∧ a0 ≤ 11 ∧ 0 ≤ a8)) (h4 : a1 = 0 ∨ a1 = 1) (h5 : ¬ (a1 = 0)) (h6 : (-1 ≤ a8 ∧ a8 ≤ 5) ∧ (0 ≤ a9 ∧ a9 ≤ 2) ∧ (0 ≤ a10 ∧ a10 ≤ 2) ∧ (-1 ≤ a11 ∧ a11 ≤ 2) ∧ (a8 = 1 ∨ a8 = 3 ∨ a8 = 4 → 0 ≤ a11)) (h7 : ((a8 = 2 ∨ a8 = 4 ∨ a8 = 5) ∧ a2 = 0) ∨ (a8 ≠ 2 ∧ a8 ≠ 4 ∧ a8 ≠ 5 ∧ a2 = -99)) (h8 : -99 ≤ a3 ∧ a3 ≤ 100 ∧ (a8 = 2 ∨ a8 = 4 ∨ a8 = 5 → 0 ≤ a3 ∧ a3 ≤ 30)) (h9 : 2147483648 - a3 < ((a7 + 1 : Nat) : Int)) (h10 : ((a8 = 2 ∨ a8 = 4 ∨ a8 = 5) ∧ a4 = 29) ∨ (a8 ≠ 2 ∧ a8 ≠ 4 ∧ a8 ≠ 5 ∧ a4 = 99)) (h11 : ¬ (a4 < a3)) (h12 : 0 ≤ a0 ∧ a0 ≤ 11 ∧ -99 ≤ a3 ∧ a3 ≤ 99 → a5 = 199 * a0 + a3 + 99) (r0 : -2147483648 ≤ a0 ∧ a0 < 2147483648) (r1 : -2147483648 ≤ a1 ∧ a1 < 2147483648) (r2 : -2147483648 ≤ a2 ∧ a2 < 2147483648) (r3 : -2147483648 ≤ a3 ∧ a3 < 2147483648) (r4 : -2147483648 ≤ a4 ∧ a4 < 2147483648) (r5 : -2147483648 ≤ a5 ∧ a5 < 2147483648) : 0 ≤ a5 ∧ a5 < ((2388 : Nat) : Int) := by omega
theorem z_X11_fresh_18 (a0 : Int) (a1 : Int) (a2 : Int) (a3 : Nat) (a4 : Int) (a5 : Int) (a6 : Int) (a7 : Int) (h0 : (0 : Int) ≤ a0) (h1 : 2147483648 - a0 < ((a3 + 1 : Nat) : Int)) (h2 : ¬ ((12 : Int) ≤ a0)) (h3 : a1 = 0 ∨ (a1 = 1 ∧ 0 ≤ a0 ∧ a0 ≤ 11 ∧ 0 ≤ a4)) (h4 : a1 = 0 ∨ a1 = 1) (h5 : ¬ (a1 = 0)) (h6 : (-1 ≤ a4 ∧ a4 ≤ 5) ∧ (0 ≤ a5 ∧ a5 ≤ 2) ∧ (0 ≤ a6 ∧ a6 ≤ 2) ∧ (-1 ≤ a7 ∧ a7 ≤ 2) ∧ (a4 = 1 ∨ a4 = 3 ∨ a4 = 4 → 0 ≤ a7)) (h7 : ((a4 = 2 ∨ a4 = 4 ∨ a4 = 5) ∧ a2 = 0) ∨ (a4 ≠ 2 ∧ a4 ≠ 4 ∧ a4 ≠ 5 ∧ a2 = -99)) (r0 : -2147483648 ≤ a0 ∧ a0 < 2147483648) (r1 : -2147483648 ≤ a1 ∧ a1 < 2147483648) (r2 : -2147483648 ≤ a2 ∧ a2 < 2147483648) : -99 ≤ a2 ∧ a2 ≤ 100 ∧ (a4 = 2 ∨ a4 = 4 ∨ a4 = 5 → 0 ≤ a2 ∧ a2 ≤ 30) := by omega
theorem z_X11_fresh_19 (a0 : Int) (a1 : Int) (a2 : Int) (a3 : Nat) (a4 : Int) (a5 : Int) (a6 : Int) (a7 : Int) (h0 : (0 : Int) ≤ a0) (h1 : 2147483648 - a0 < ((a3 + 1 : Nat) : Int)) (h2 : ¬ ((12 : Int) ≤ a0)) (h3 : a1 = 0 ∨ (a1 = 1 ∧ 0 ≤ a0 ∧ a0 ≤ 11 ∧ 0 ≤ a4)) (h4 : a1 = 0 ∨ a1 = 1) (h5 : ¬ (a1 = 0)) (h6 : (-1 ≤ a4 ∧ a4 ≤ 5) ∧ (0 ≤ a5 ∧ a5 ≤ 2) ∧ (0 ≤ a6 ∧ a6 ≤ 2) ∧ (-1 ≤ a7 ∧ a7 ≤ 2) ∧ (a4 = 1 ∨ a4 = 3 ∨ a4 = 4 → 0 ≤ a7)) (h7 : ((a4 = 2 ∨ a4 = 4 ∨ a4 = 5) ∧ a2 = 0) ∨ (a4 ≠ 2 ∧ a4 ≠ 4 ∧ a4 ≠ 5 ∧ a2 = -99)) (r0 : -2147483648 ≤ a0 ∧ a0 < 2147483648) (r1 : -2147483648 ≤ a1 ∧ a1 < 2147483648) (r2 : -2147483648 ≤ a2 ∧ a2 < 2147483648) : 2147483648 - a2 < ((4294967297 : Nat) : Int) := by omega
abbrev rm_X11_fresh : Room := { frames := 5, cells := 0, slots := 0, locals := 122 }
set_option maxHeartbeats 4000000 in
set_option maxRecDepth 100000 in
theorem c_X11_fresh (l : Launch) (E : XE) (K : Nat → Nat) (F : Nat → Nat → Nat) (tl z0 z1 z2 z3 z4 z5 z6 z7 z8 z9 z10 z11 z12 z13 z14 z15 z16 z17 z18 z19 z20 : Int32) (ar0 ar1 ar2 ar3 ar4 ar5 ar6 ar7 ar8 ar9 ar10 : Nat → Int32) (a : Nat) (p0 : Int32) (p1 : Int32) (ha : K a = 13) (hR : RV ar1) (e0 : 0 ≤ z2.toInt ∧ z2.toInt ≤ 8) : Met l yX11_fresh (xw yX11_fresh cX11_fresh 8 (some .int)) rm_X11_fresh (va_Pc [.ref a, .int p0, .int p1] (XP E K F (tl, [z0, z1, z2, z3, z4, z5, z6, z7, z8, z9, z10, z11, z12, z13, z14, z15, z16, z17, z18, z19, z20], [ar0, ar1, ar2, ar3, ar4, ar5, ar6, ar7, ar8, ar9, ar10]))) (XQ E (fun v (u : Int32 × Int32 × Int32 × (Nat → Int32) × (Nat → Int32) × (Nat → Int32)) => ∃ r : Int32, v = .int r) (fun u H => TW E K F (tl, [u.1, z1, z2, u.2.1, u.2.2.1, z5, z6, z7, z8, z9, z10, z11, z12, z13, z14, z15, z16, z17, z18, z19, z20], [ar0, ar1, u.2.2.2.1, u.2.2.2.2.1, u.2.2.2.2.2, ar5, ar6, ar7, ar8, ar9, ar10]) [] H)) 0 0 (xA E) := by
  refine x_enter (by decide) (Nat.le_of_ble_eq_true rfl) ?_
  intro p e s m args below meth c Q S hr hlk hnm hQ hP ls hl
  obtain ⟨hz, hK, hT⟩ := hP
  obtain ⟨hx, hb, -, -, -⟩ := id S
  obtain ⟨H, hT, hS, hgo⟩ : ∃ H : Heap, TW E K F (tl, [z0, z1, z2, z3, z4, z5, z6, z7, z8, z9, z10, z11, z12, z13, z14, z15, z16, z17, z18, z19, z20], [ar0, ar1, ar2, ar3, ar4, ar5, ar6, ar7, ar8, ar9, ar10]) [] H ∧ va_S (xA E) s.heap H [] ∧ H = s.heap := ⟨_, hT, va_S.rf, rfl⟩
  rw [← hgo]
  have hl : lv_has ls 8 [(0, .ref a), (1, .int p0), (2, .int p1)] := hl
  refine lv_aload_n hx hb dX11_fresh_0 rfl (lv_at hl 0 rfl) ?_
  refine lv_iconst (v := 0) hx hb dX11_fresh_1 (by decide) ?_
  refine pX11_0 (kq := []) (v := 0) S hK hT hS ha kf_X11_134 (Nat.le_of_ble_eq_true rfl) dX11_fresh_2 (fun _ h => by cases h) (fun H locs hT hS => ?_)
  have hT : TW E K F (tl, [0, z1, z2, z3, z4, z5, z6, z7, z8, z9, z10, z11, z12, z13, z14, z15, z16, z17, z18, z19, z20], [ar0, ar1, ar2, ar3, ar4, ar5, ar6, ar7, ar8, ar9, ar10]) [] H := hT
  refine lv_aload_n hx hb dX11_fresh_5 rfl (lv_at hl 0 rfl) ?_
  refine lv_iload_n hx hb dX11_fresh_6 rfl (lv_at hl 1 rfl) ?_
  refine x_clp (x_runV (b := a) (As := [.int p0]) (rest := []) S (c_X11_isMark l E K F tl 0 z1 z2 z3 z4 z5 z6 z7 z8 z9 z10 z11 z12 z13 z14 z15 z16 z17 z18 z19 z20 ar0 ar1 ar2 ar3 ar4 ar5 ar6 ar7 ar8 ar9 ar10 H a p0 ha) mv_X11_isMark km_X11_382 rfl rfl ⟨Nat.le_of_ble_eq_true rfl, Nat.le_of_ble_eq_true rfl⟩ (rc_13 hK hT ha) hK (fun _ => XPh.blind) (fun U hU hW => XPh.at hK hz hS hT hU hW) rfl hl.1 (Nat.le_of_ble_eq_true rfl) dX11_fresh_7 ⟨Nat.le_of_ble_eq_true rfl, Nat.le_of_ble_eq_true rfl⟩) hS ?_
  rintro _ _ locs ⟨x2, rfl, b3, t1⟩ hS
  have t1 : x2.toInt = 0 ∨ (x2.toInt = 1 ∧ 0 ≤ p0.toInt ∧ p0.toInt < z2.toInt) := t1
  refine xi_zeq (tgt := 23) hx hb (rfl : Int32.toInt x2 = x2.toInt) dX11_fresh_10 (by decide) (fun c4 => ?_) (fun c4 => ?_)
  · refine lv_iconst (v := (-1)) hx hb dX11_fresh_23 (by decide) ?_
    exact x_ri hx hb hr hlk hQ (Nat.le_of_ble_eq_true rfl) (Nat.le_of_ble_eq_true rfl) hS dX11_fresh_24 (0, z3, z4, ar2, ar3, ar4) ⟨_, rfl⟩ hT.nil
  · refine lv_iload_n hx hb dX11_fresh_13 rfl (lv_at hl 2 rfl) ?_
    refine lv_i2l (v := p1.toInt64) hx hb dX11_fresh_14 rfl ?_
    refine lv_lconst (v := (0 : Int64)) hx hb dX11_fresh_15 (by decide) ?_
    refine lv_lconst (v := (1 : Int64)) hx hb dX11_fresh_16 (by decide) ?_
    refine x_clp (x_runS (As := [.long p1.toInt64, .long (0 : Int64), .long (1 : Int64)]) (rest := []) S (c_X11_in l E K F tl 0 z1 z2 z3 z4 z5 z6 z7 z8 z9 z10 z11 z12 z13 z14 z15 z16 z17 z18 z19 z20 ar0 ar1 ar2 ar3 ar4 ar5 ar6 ar7 ar8 ar9 ar10 H p1.toInt64 (0 : Int64) (1 : Int64) p1.toInt (0 : Int) (1 : Int) (xl_i2l (rfl : Int32.toInt p1 = p1.toInt)) (by decide) (by decide)) ms_X11_in km_X11_139 rfl rfl ⟨Nat.le_of_ble_eq_true rfl, Nat.le_of_ble_eq_true rfl⟩ hK (fun _ => XPh.blind) (fun U hU hW => XPh.at hK hz hS hT hU hW) rfl hl.1 (Nat.le_of_ble_eq_true rfl) dX11_fresh_17 ⟨Nat.le_of_ble_eq_true rfl, Nat.le_of_ble_eq_true rfl⟩) hS ?_
    rintro _ _ locs ⟨x5, rfl, b6, t7⟩ hS
    have t7 : (x5.toInt = 1 ∧ (0 : Int) ≤ p1.toInt ∧ p1.toInt ≤ (1 : Int)) ∨ (x5.toInt = 0 ∧ (p1.toInt < (0 : Int) ∨ (1 : Int) < p1.toInt)) := t7
    refine xi_zne (tgt := 25) hx hb (rfl : Int32.toInt x5 = x5.toInt) dX11_fresh_20 (by decide) (fun c8 => ?_) (fun c8 => ?_)
    · refine lv_aload_n hx hb dX11_fresh_25 rfl (lv_at hl 0 rfl) ?_
      refine x_cv0 (x_runV (b := a) (As := []) (rest := []) S (c_X11_findQueue l E K F tl 0 z1 z2 z3 z4 z5 z6 z7 z8 z9 z10 z11 z12 z13 z14 z15 z16 z17 z18 z19 z20 ar0 ar1 ar2 ar3 ar4 ar5 ar6 ar7 ar8 ar9 ar10 a ha hR) mv_X11_findQueue km_X11_218 rfl rfl ⟨Nat.le_of_ble_eq_true rfl, Nat.le_of_ble_eq_true rfl⟩ (rc_13 hK hT ha) hK (fun _ => XP.blind) (fun U hU hW => XP.at hK hz hS hT hU hW) rfl hl.1 (Nat.le_of_ble_eq_true rfl) dX11_fresh_26 ⟨Nat.le_of_ble_eq_true rfl, Nat.le_of_ble_eq_true rfl⟩) hS ?_
      rintro ⟨u9, u10, f11, f12, f13⟩ H locs t14 hT hS
      have hT : TW E K F (tl, [0, z1, z2, u9, u10, z5, z6, z7, z8, z9, z10, z11, z12, z13, z14, z15, z16, z17, z18, z19, z20], [ar0, ar1, f11, f12, f13, ar5, ar6, ar7, ar8, ar9, ar10]) [] H := hT
      have t14 : 0 ≤ u10.toInt ∧ u10.toInt ≤ 2388 ∧ u10.toInt ≤ (((fV ar1 f12 f13) : Nat) : Int) := t14
      refine lv_aload_n hx hb dX11_fresh_29 rfl (lv_at hl 0 rfl) ?_
      refine lv_aload_n hx hb dX11_fresh_30 rfl (lv_at hl 0 rfl) ?_
      refine gX11_14 S hK hT ha kf_X11_45 dX11_fresh_31 (fun hk17 => ?_)
      refine lv_aload_n hx hb dX11_fresh_34 rfl (lv_at hl 0 rfl) ?_
      refine gX11_3 S hK hT ha kf_X11_18 dX11_fresh_35 (fun hk18 => ?_)
      refine lv_sipush (v := 360) hx hb dX11_fresh_38 (by decide) ?_
      refine lv_iload_n hx hb dX11_fresh_41 rfl (lv_at hl 1 rfl) ?_
      refine xi_imul hx hb ((by decide) : Int32.toInt 360 = (360 : Int)) (rfl : Int32.toInt p0 = p0.toInt) dX11_fresh_42 (fun x19 t20 => ?_)
      refine x_cv0 (x_runV (b := a) (As := [.ref (F a 14), .ref (F a 3), .int x19]) (rest := []) S (c_X11_layStates l E K F tl 0 z1 z2 u9 u10 z5 z6 z7 z8 z9 z10 z11 z12 z13 z14 z15 z16 z17 z18 z19 z20 ar0 ar1 f11 f12 f13 ar5 ar6 ar7 ar8 ar9 ar10 a (F a 14) (F a 3) x19 ha hk17 (XO.c hk18 (z_X11_fresh_1 p0.toInt x19.toInt x2.toInt z2.toInt e0 t1 (xbz b3) c4 t20 (xr p0) (xr x19) (xr x2) (xr z2))) hR) mv_X11_layStates km_X11_210 rfl rfl ⟨Nat.le_of_ble_eq_true rfl, Nat.le_of_ble_eq_true rfl⟩ (rc_13 hK hT ha) hK (fun _ => XP.blind) (fun U hU hW => XP.at hK hz hS hT hU hW) rfl hl.1 (Nat.le_of_ble_eq_true rfl) dX11_fresh_43 ⟨Nat.le_of_ble_eq_true rfl, Nat.le_of_ble_eq_true rfl⟩) hS ?_
      rintro _ H locs - hT hS
      refine lv_iconst (v := 0) hx hb dX11_fresh_46 (by decide) ?_
      refine lv_istore_n (lv' := [(3, .int 0), (0, .ref a), (1, .int p0), (2, .int p1)]) hx hb dX11_fresh_47 rfl hl (by decide) rfl (fun ls hl => ?_)
      refine lv_iconst (v := 0) hx hb dX11_fresh_48 (by decide) ?_
      refine lv_istore (lv' := [(4, .int 0), (3, .int 0), (0, .ref a), (1, .int p0), (2, .int p1)]) hx hb dX11_fresh_49 hl (by decide) rfl (fun ls hl => ?_)
      have L51 : ∀ (N25 : Nat) (x23 : Int32) (x24 : Int32) (H : Heap) (locs : List Loc) (ls : Array Slot), (0 : Int) ≤ x24.toInt → 2147483648 - x24.toInt < ((N25 : Nat) : Int) → TW E K F (tl, [0, z1, z2, u9, u10, z5, z6, z7, z8, z9, z10, z11, z12, z13, z14, z15, z16, z17, z18, z19, z20], [ar0, ar1, f11, f12, f13, ar5, ar6, ar7, ar8, ar9, ar10]) [] H → va_S (xA E) s.heap H locs → lv_has ls 8 [(0, .ref a), (2, .int p1), (3, .int x23), (4, .int x24)] → W p l e rm_X11_fresh s m args below meth c H locs 0 0 Q (F0 m 51 ls []) := by
        intro N25
        induction N25 with
        | zero =>
          intro x23 x24 H locs ls hf26 hm27
          exact absurd hm27 (z_X11_fresh_2 x24.toInt hf26 (xr x24))
        | succ N25 ih28 =>
          intro x23 x24 H locs ls hf26 hm27 hT hS hl
          refine lv_iload hx hb dX11_fresh_51 (lv_at hl 3 rfl) ?_
          refine lv_bipush (v := 12) hx hb dX11_fresh_53 (by decide) ?_
          refine xi_cge (tgt := 207) hx hb (rfl : Int32.toInt x24 = x24.toInt) ((by decide) : Int32.toInt 12 = (12 : Int)) dX11_fresh_55 (by decide) (fun c29 => ?_) (fun c29 => ?_)
          · refine lv_iload_n hx hb dX11_fresh_207 rfl (lv_at hl 2 rfl) ?_
            exact x_ri hx hb hr hlk hQ (Nat.le_of_ble_eq_true rfl) (Nat.le_of_ble_eq_true rfl) hS dX11_fresh_208 (0, u9, u10, f11, f12, f13) ⟨_, rfl⟩ hT.nil
          · refine lv_aload_n hx hb dX11_fresh_58 rfl (lv_at hl 0 rfl) ?_
            refine lv_iload hx hb dX11_fresh_59 (lv_at hl 3 rfl) ?_
            refine x_clp (x_runV (b := a) (As := [.int x24]) (rest := []) S (c_X11_isRule l E K F tl 0 z1 z2 u9 u10 z5 z6 z7 z8 z9 z10 z11 z12 z13 z14 z15 z16 z17 z18 z19 z20 ar0 ar1 f11 f12 f13 ar5 ar6 ar7 ar8 ar9 ar10 H a x24 ha hR) mv_X11_isRule km_X11_162 rfl rfl ⟨Nat.le_of_ble_eq_true rfl, Nat.le_of_ble_eq_true rfl⟩ (rc_13 hK hT ha) hK (fun _ => XPh.blind) (fun U hU hW => XPh.at hK hz hS hT hU hW) rfl hl.1 (Nat.le_of_ble_eq_true rfl) dX11_fresh_61 ⟨Nat.le_of_ble_eq_true rfl, Nat.le_of_ble_eq_true rfl⟩) hS ?_
            rintro _ _ locs ⟨x31, rfl, b32, t30⟩ hS
            have t30 : x31.toInt = 0 ∨ (x31.toInt = 1 ∧ 0 ≤ x24.toInt ∧ x24.toInt ≤ 11 ∧ 0 ≤ (aI ar1 (10 * x24.toInt + (0 : Int)))) := t30
            have J201 : ∀ (x33 : Int32) (H : Heap) (locs : List Loc) (ls : Array Slot), TW E K F (tl, [0, z1, z2, u9, u10, z5, z6, z7, z8, z9, z10, z11, z12, z13, z14, z15, z16, z17, z18, z19, z20], [ar0, ar1, f11, f12, f13, ar5, ar6, ar7, ar8, ar9, ar10]) [] H → va_S (xA E) s.heap H locs → lv_has ls 8 [(0, .ref a), (2, .int p1), (3, .int x33), (4, .int x24)] → W p l e rm_X11_fresh s m args below meth c H locs 0 0 Q (F0 m 201 ls []) := by
              intro x33 H locs ls hT hS hl
              refine xi_iinc (n := 1) (lv' := fun z9 => [(4, .int z9), (0, .ref a), (2, .int p1), (3, .int x33)]) (k := 3) hx hb (rfl : Int32.toInt x24 = x24.toInt) (by decide) dX11_fresh_201 hl rfl (by decide) (fun _ => rfl) (fun x34 ls t35 hl => ?_)
              have hl : lv_has ls 8 [(4, .int x34), (0, .ref a), (2, .int p1), (3, .int x33)] := hl
              refine lv_goto (tgt := 51) hx hb dX11_fresh_204 (by decide) ?_
              exact ih28 x33 x34 _ _ _ (z_X11_fresh_3 x24.toInt x31.toInt x34.toInt N25 (aI ar1 (10 * x24.toInt + (0 : Int))) hf26 hm27 c29 t30 (xbz b32) t35 (xr x24) (xr x31) (xr x34)) (z_X11_fresh_4 x24.toInt x31.toInt x34.toInt N25 (aI ar1 (10 * x24.toInt + (0 : Int))) hf26 hm27 c29 t30 (xbz b32) t35 (xr x24) (xr x31) (xr x34)) hT.nil hS (lv_sub hl [1, 2, 3, 0] rfl)
            refine xi_zeq (tgt := 201) hx hb (rfl : Int32.toInt x31 = x31.toInt) dX11_fresh_64 (by decide) (fun c36 => ?_) (fun c36 => ?_)
            · exact J201 x23 _ _ _ hT.nil hS (lv_sub hl [0, 1, 2, 3] rfl)
            · refine lv_aload_n hx hb dX11_fresh_67 rfl (lv_at hl 0 rfl) ?_
              refine lv_iload hx hb dX11_fresh_68 (lv_at hl 3 rfl) ?_
              refine lv_bipush (v := 6) hx hb dX11_fresh_70 (by decide) ?_
              refine x_clp (x_runV (b := a) (As := [.int x24, .int 6]) (rest := []) S (c_X11_of l E K F tl 0 z1 z2 u9 u10 z5 z6 z7 z8 z9 z10 z11 z12 z13 z14 z15 z16 z17 z18 z19 z20 ar0 ar1 f11 f12 f13 ar5 ar6 ar7 ar8 ar9 ar10 H a x24 6 ha (z_X11_fresh_5 x24.toInt x31.toInt N25 (aI ar1 (10 * x24.toInt + (0 : Int))) hf26 hm27 c29 t30 (xbz b32) c36 (xr x24) (xr x31)) (by decide)) mv_X11_of km_X11_165 rfl rfl ⟨Nat.le_of_ble_eq_true rfl, Nat.le_of_ble_eq_true rfl⟩ (rc_13 hK hT ha) hK (fun _ => XPh.blind) (fun U hU hW => XPh.at hK hz hS hT hU hW) rfl hl.1 (Nat.le_of_ble_eq_true rfl) dX11_fresh_72 ⟨Nat.le_of_ble_eq_true rfl, Nat.le_of_ble_eq_true rfl⟩) hS ?_
              rintro _ _ locs ⟨x38, rfl, t37⟩ hS
              have t37 : x38.toInt = (aI ar1 (10 * x24.toInt + (6 : Int))) := t37
              have v40 : (-1 ≤ (aI ar1 (10 * x24.toInt + (0 : Int))) ∧ (aI ar1 (10 * x24.toInt + (0 : Int))) ≤ 5) ∧ (0 ≤ (aI ar1 (10 * x24.toInt + (1 : Int))) ∧ (aI ar1 (10 * x24.toInt + (1 : Int))) ≤ 2) ∧ (0 ≤ (aI ar1 (10 * x24.toInt + (2 : Int))) ∧ (aI ar1 (10 * x24.toInt + (2 : Int))) ≤ 2) ∧ (-1 ≤ (aI ar1 (10 * x24.toInt + (3 : Int))) ∧ (aI ar1 (10 * x24.toInt + (3 : Int))) ≤ 2) ∧ ((aI ar1 (10 * x24.toInt + (0 : Int))) = 1 ∨ (aI ar1 (10 * x24.toInt + (0 : Int))) = 3 ∨ (aI ar1 (10 * x24.toInt + (0 : Int))) = 4 → 0 ≤ (aI ar1 (10 * x24.toInt + (3 : Int)))) := RV.row hR (z_X11_fresh_6 x24.toInt x31.toInt N25 (aI ar1 (10 * x24.toInt + (0 : Int))) hf26 hm27 c29 t30 (xbz b32) c36 (xr x24) (xr x31))
              refine lv_iconst (v := 1) hx hb dX11_fresh_75 (by decide) ?_
              refine xi_cne (tgt := 201) hx hb (rfl : Int32.toInt x38 = x38.toInt) ((by decide) : Int32.toInt 1 = (1 : Int)) dX11_fresh_76 (by decide) (fun c41 => ?_) (fun c41 => ?_)
              · exact J201 x23 _ _ _ hT.nil hS (lv_sub hl [0, 1, 2, 3] rfl)
              · refine lv_aload_n hx hb dX11_fresh_79 rfl (lv_at hl 0 rfl) ?_
                refine lv_iload hx hb dX11_fresh_80 (lv_at hl 3 rfl) ?_
                refine x_clp (x_runV (b := a) (As := [.int x24]) (rest := []) S (c_X11_firstSubject l E K F tl 0 z1 z2 u9 u10 z5 z6 z7 z8 z9 z10 z11 z12 z13 z14 z15 z16 z17 z18 z19 z20 ar0 ar1 f11 f12 f13 ar5 ar6 ar7 ar8 ar9 ar10 H a x24 ha hR (z_X11_fresh_7 x24.toInt x31.toInt N25 (aI ar1 (10 * x24.toInt + (0 : Int))) (aI ar1 (10 * x24.toInt + (1 : Int))) (aI ar1 (10 * x24.toInt + (2 : Int))) (aI ar1 (10 * x24.toInt + (3 : Int))) hf26 hm27 c29 t30 (xbz b32) c36 v40 (xr x24) (xr x31))) mv_X11_firstSubject km_X11_179 rfl rfl ⟨Nat.le_of_ble_eq_true rfl, Nat.le_of_ble_eq_true rfl⟩ (rc_13 hK hT ha) hK (fun _ => XPh.blind) (fun U hU hW => XPh.at hK hz hS hT hU hW) rfl hl.1 (Nat.le_of_ble_eq_true rfl) dX11_fresh_82 ⟨Nat.le_of_ble_eq_true rfl, Nat.le_of_ble_eq_true rfl⟩) hS ?_
                rintro _ _ locs ⟨x43, rfl, t42⟩ hS
                have t42 : (((aI ar1 (10 * x24.toInt + (0 : Int))) = 2 ∨ (aI ar1 (10 * x24.toInt + (0 : Int))) = 4 ∨ (aI ar1 (10 * x24.toInt + (0 : Int))) = 5) ∧ x43.toInt = 0) ∨ ((aI ar1 (10 * x24.toInt + (0 : Int))) ≠ 2 ∧ (aI ar1 (10 * x24.toInt + (0 : Int))) ≠ 4 ∧ (aI ar1 (10 * x24.toInt + (0 : Int))) ≠ 5 ∧ x43.toInt = -99) := t42
                refine lv_istore (lv' := [(5, .int x43), (0, .ref a), (2, .int p1), (3, .int x23), (4, .int x24)]) hx hb dX11_fresh_85 hl (by decide) rfl (fun ls hl => ?_)
                have L87 : ∀ (N47 : Nat) (x45 : Int32) (x46 : Int32) (H : Heap) (locs : List Loc) (ls : Array Slot), -99 ≤ x46.toInt ∧ x46.toInt ≤ 100 ∧ ((aI ar1 (10 * x24.toInt + (0 : Int))) = 2 ∨ (aI ar1 (10 * x24.toInt + (0 : Int))) = 4 ∨ (aI ar1 (10 * x24.toInt + (0 : Int))) = 5 → 0 ≤ x46.toInt ∧ x46.toInt ≤ 30) → 2147483648 - x46.toInt < ((N47 : Nat) : Int) → TW E K F (tl, [0, z1, z2, u9, u10, z5, z6, z7, z8, z9, z10, z11, z12, z13, z14, z15, z16, z17, z18, z19, z20], [ar0, ar1, f11, f12, f13, ar5, ar6, ar7, ar8, ar9, ar10]) [] H → va_S (xA E) s.heap H locs → lv_has ls 8 [(0, .ref a), (2, .int p1), (3, .int x45), (4, .int x24), (5, .int x46)] → W p l e rm_X11_fresh s m args below meth c H locs 0 0 Q (F0 m 87 ls []) := by
                  intro N47
                  induction N47 with
                  | zero =>
                    intro x45 x46 H locs ls hf48 hm49
                    exact absurd hm49 (z_X11_fresh_8 x24.toInt x31.toInt x43.toInt x46.toInt N25 (aI ar1 (10 * x24.toInt + (0 : Int))) (aI ar1 (10 * x24.toInt + (1 : Int))) (aI ar1 (10 * x24.toInt + (2 : Int))) (aI ar1 (10 * x24.toInt + (3 : Int))) hf48 hf26 hm27 c29 t30 (xbz b32) c36 v40 t42 (xr x24) (xr x31) (xr x43) (xr x46))
                  | succ N47 ih50 =>
                    intro x45 x46 H locs ls hf48 hm49 hT hS hl
                    refine lv_iload hx hb dX11_fresh_87 (lv_at hl 4 rfl) ?_
                    refine lv_aload_n hx hb dX11_fresh_89 rfl (lv_at hl 0 rfl) ?_
                    refine lv_iload hx hb dX11_fresh_90 (lv_at hl 3 rfl) ?_
                    refine x_clp (x_runV (b := a) (As := [.int x24]) (rest := [.int x46]) S (c_X11_lastSubject l E K F tl 0 z1 z2 u9 u10 z5 z6 z7 z8 z9 z10 z11 z12 z13 z14 z15 z16 z17 z18 z19 z20 ar0 ar1 f11 f12 f13 ar5 ar6 ar7 ar8 ar9 ar10 H a x24 ha hR (z_X11_fresh_9 x24.toInt x31.toInt x43.toInt x46.toInt N25 N47 (aI ar1 (10 * x24.toInt + (0 : Int))) (aI ar1 (10 * x24.toInt + (1 : Int))) (aI ar1 (10 * x24.toInt + (2 : Int))) (aI ar1 (10 * x24.toInt + (3 : Int))) hf26 hm27 c29 t30 (xbz b32) c36 v40 t42 hf48 hm49 (xr x24) (xr x31) (xr x43) (xr x46))) mv_X11_lastSubject km_X11_183 rfl rfl ⟨Nat.le_of_ble_eq_true rfl, Nat.le_of_ble_eq_true rfl⟩ (rc_13 hK hT ha) hK (fun _ => XPh.blind) (fun U hU hW => XPh.at hK hz hS hT hU hW) rfl hl.1 (Nat.le_of_ble_eq_true rfl) dX11_fresh_92 ⟨Nat.le_of_ble_eq_true rfl, Nat.le_of_ble_eq_true rfl⟩) hS ?_
                    rintro _ _ locs ⟨x52, rfl, t51⟩ hS
                    have t51 : (((aI ar1 (10 * x24.toInt + (0 : Int))) = 2 ∨ (aI ar1 (10 * x24.toInt + (0 : Int))) = 4 ∨ (aI ar1 (10 * x24.toInt + (0 : Int))) = 5) ∧ x52.toInt = 29) ∨ ((aI ar1 (10 * x24.toInt + (0 : Int))) ≠ 2 ∧ (aI ar1 (10 * x24.toInt + (0 : Int))) ≠ 4 ∧ (aI ar1 (10 * x24.toInt + (0 : Int))) ≠ 5 ∧ x52.toInt = 99) := t51
                    refine xi_cgt (tgt := 201) hx hb (rfl : Int32.toInt x46 = x46.toInt) (rfl : Int32.toInt x52 = x52.toInt) dX11_fresh_95 (by decide) (fun c54 => ?_) (fun c54 => ?_)
                    · exact J201 x45 _ _ _ hT.nil hS (lv_sub hl [0, 1, 2, 3] rfl)
                    · refine lv_iload hx hb dX11_fresh_98 (lv_at hl 3 rfl) ?_
                      refine lv_iload hx hb dX11_fresh_100 (lv_at hl 4 rfl) ?_
                      refine x_clp (x_runS (As := [.int x24, .int x46]) (rest := []) S (c_X11_placeOf l E K F tl 0 z1 z2 u9 u10 z5 z6 z7 z8 z9 z10 z11 z12 z13 z14 z15 z16 z17 z18 z19 z20 ar0 ar1 f11 f12 f13 ar5 ar6 ar7 ar8 ar9 ar10 H x24 x46) ms_X11_placeOf km_X11_186 rfl rfl ⟨Nat.le_of_ble_eq_true rfl, Nat.le_of_ble_eq_true rfl⟩ hK (fun _ => XPh.blind) (fun U hU hW => XPh.at hK hz hS hT hU hW) rfl hl.1 (Nat.le_of_ble_eq_true rfl) dX11_fresh_102 ⟨Nat.le_of_ble_eq_true rfl, Nat.le_of_ble_eq_true rfl⟩) hS ?_
                      rintro _ _ locs ⟨x56, rfl, t55⟩ hS
                      have t55 : 0 ≤ x24.toInt ∧ x24.toInt ≤ 11 ∧ -99 ≤ x46.toInt ∧ x46.toInt ≤ 99 → x56.toInt = 199 * x24.toInt + x46.toInt + 99 := t55
                      refine lv_istore (lv' := [(6, .int x56), (0, .ref a), (2, .int p1), (3, .int x45), (4, .int x24), (5, .int x46)]) hx hb dX11_fresh_105 hl (by decide) rfl (fun ls hl => ?_)
                      refine lv_aload_n hx hb dX11_fresh_107 rfl (lv_at hl 1 rfl) ?_
                      refine gX11_11 S hK hT ha kf_X11_36 dX11_fresh_108 (fun hk58 => ?_)
                      refine lv_iload hx hb dX11_fresh_111 (lv_at hl 0 rfl) ?_
                      refine al_0 S hK hT hk58 ar_38 (by decide) (z_X11_fresh_10 x24.toInt x31.toInt x43.toInt x46.toInt x52.toInt x56.toInt N25 N47 (aI ar1 (10 * x24.toInt + (0 : Int))) (aI ar1 (10 * x24.toInt + (1 : Int))) (aI ar1 (10 * x24.toInt + (2 : Int))) (aI ar1 (10 * x24.toInt + (3 : Int))) hf26 hm27 c29 t30 (xbz b32) c36 v40 t42 hf48 hm49 t51 c54 t55 (xr x24) (xr x31) (xr x43) (xr x46) (xr x52) (xr x56)) dX11_fresh_113 (fun x59 o60 => ?_)
                      refine lv_aload_n hx hb dX11_fresh_114 rfl (lv_at hl 1 rfl) ?_
                      refine gX11_13 S hK hT ha kf_X11_42 dX11_fresh_115 (fun hk61 => ?_)
                      refine lv_iload hx hb dX11_fresh_118 (lv_at hl 0 rfl) ?_
                      refine al_0 S hK hT hk61 ar_38 (by decide) (z_X11_fresh_11 x24.toInt x31.toInt x43.toInt x46.toInt x52.toInt x56.toInt N25 N47 (aI ar1 (10 * x24.toInt + (0 : Int))) (aI ar1 (10 * x24.toInt + (1 : Int))) (aI ar1 (10 * x24.toInt + (2 : Int))) (aI ar1 (10 * x24.toInt + (3 : Int))) hf26 hm27 c29 t30 (xbz b32) c36 v40 t42 hf48 hm49 t51 c54 t55 (xr x24) (xr x31) (xr x43) (xr x46) (xr x52) (xr x56)) dX11_fresh_120 (fun x62 o63 => ?_)
                      have J129 : ∀ (x64 : Int32) (H : Heap) (locs : List Loc) (ls : Array Slot), TW E K F (tl, [0, z1, z2, u9, u10, z5, z6, z7, z8, z9, z10, z11, z12, z13, z14, z15, z16, z17, z18, z19, z20], [ar0, ar1, f11, f12, f13, ar5, ar6, ar7, ar8, ar9, ar10]) [] H → va_S (xA E) s.heap H locs → lv_has ls 8 [(0, .ref a), (2, .int p1), (3, .int x45), (4, .int x24), (5, .int x46), (6, .int x56)] → W p l e rm_X11_fresh s m args below meth c H locs 0 0 Q (F0 m 129 ls [.int x64]) := by
                        intro x64 H locs ls hT hS hl
                        refine lv_istore (lv' := [(7, .int x64), (0, .ref a), (2, .int p1), (3, .int x45), (4, .int x24), (5, .int x46), (6, .int x56)]) hx hb dX11_fresh_129 hl (by decide) rfl (fun ls hl => ?_)
                        refine lv_iload_n hx hb dX11_fresh_131 rfl (lv_at hl 3 rfl) ?_
                        refine lv_iload_n hx hb dX11_fresh_132 rfl (lv_at hl 2 rfl) ?_
                        have J193 : ∀ (x65 : Int32) (H : Heap) (locs : List Loc) (ls : Array Slot), TW E K F (tl, [0, z1, z2, u9, u10, z5, z6, z7, z8, z9, z10, z11, z12, z13, z14, z15, z16, z17, z18, z19, z20], [ar0, ar1, f11, f12, f13, ar5, ar6, ar7, ar8, ar9, ar10]) [] H → va_S (xA E) s.heap H locs → lv_has ls 8 [(0, .ref a), (2, .int p1), (4, .int x24), (5, .int x46)] → W p l e rm_X11_fresh s m args below meth c H locs 0 0 Q (F0 m 193 ls [.int x65, .int x45]) := by
                          intro x65 H locs ls hT hS hl
                          refine xi_iadd hx hb (rfl : Int32.toInt x45 = x45.toInt) (rfl : Int32.toInt x65 = x65.toInt) dX11_fresh_193 (fun x66 t67 => ?_)
                          refine lv_istore_n (lv' := [(3, .int x66), (0, .ref a), (2, .int p1), (4, .int x24), (5, .int x46)]) hx hb dX11_fresh_194 rfl hl (by decide) rfl (fun ls hl => ?_)
                          refine xi_iinc (n := 1) (lv' := fun z9 => [(5, .int z9), (3, .int x66), (0, .ref a), (2, .int p1), (4, .int x24)]) (k := 4) hx hb (rfl : Int32.toInt x46 = x46.toInt) (by decide) dX11_fresh_195 hl rfl (by decide) (fun _ => rfl) (fun x68 ls t69 hl => ?_)
                          have hl : lv_has ls 8 [(5, .int x68), (3, .int x66), (0, .ref a), (2, .int p1), (4, .int x24)] := hl
                          refine lv_goto (tgt := 87) hx hb dX11_fresh_198 (by decide) ?_
                          exact ih50 x66 x68 _ _ _ (z_X11_fresh_12 x24.toInt x31.toInt x43.toInt x46.toInt x52.toInt x56.toInt x68.toInt N25 N47 (aI ar1 (10 * x24.toInt + (0 : Int))) (aI ar1 (10 * x24.toInt + (1 : Int))) (aI ar1 (10 * x24.toInt + (2 : Int))) (aI ar1 (10 * x24.toInt + (3 : Int))) hf26 hm27 c29 t30 (xbz b32) c36 v40 t42 hf48 hm49 t51 c54 t55 t69 (xr x24) (xr x31) (xr x43) (xr x46) (xr x52) (xr x56) (xr x68)) (z_X11_fresh_13 x24.toInt x31.toInt x43.toInt x46.toInt x52.toInt x56.toInt x68.toInt N25 N47 (aI ar1 (10 * x24.toInt + (0 : Int))) (aI ar1 (10 * x24.toInt + (1 : Int))) (aI ar1 (10 * x24.toInt + (2 : Int))) (aI ar1 (10 * x24.toInt + (3 : Int))) hf26 hm27 c29 t30 (xbz b32) c36 v40 t42 hf48 hm49 t51 c54 t55 t69 (xr x24) (xr x31) (xr x43) (xr x46) (xr x52) (xr x56) (xr x68)) hT.nil hS (lv_sub hl [2, 3, 1, 4, 0] rfl)
                        refine xi_zne (tgt := 166) hx hb (rfl : Int32.toInt p1 = p1.toInt) dX11_fresh_133 (by decide) (fun c70 => ?_) (fun c70 => ?_)
                        · refine lv_iload hx hb dX11_fresh_166 (lv_at hl 0 rfl) ?_
                          have J192 : ∀ (H : Heap) (locs : List Loc) (ls : Array Slot), TW E K F (tl, [0, z1, z2, u9, u10, z5, z6, z7, z8, z9, z10, z11, z12, z13, z14, z15, z16, z17, z18, z19, z20], [ar0, ar1, f11, f12, f13, ar5, ar6, ar7, ar8, ar9, ar10]) [] H → va_S (xA E) s.heap H locs → lv_has ls 8 [(0, .ref a), (2, .int p1), (4, .int x24), (5, .int x46)] → W p l e rm_X11_fresh s m args below meth c H locs 0 0 Q (F0 m 192 ls [.int x45]) := by
                            intro H locs ls hT hS hl
                            refine lv_iconst (v := 0) hx hb dX11_fresh_192 (by decide) ?_
                            exact J193 0 _ _ _ hT.nil hS (lv_sub hl [0, 1, 2, 3] rfl)
                          refine xi_zne (tgt := 192) hx hb (rfl : Int32.toInt x64 = x64.toInt) dX11_fresh_168 (by decide) (fun c71 => ?_) (fun c71 => ?_)
                          · exact J192 _ _ _ hT.nil hS (lv_sub hl [1, 2, 4, 5] rfl)
                          · refine lv_aload_n hx hb dX11_fresh_171 rfl (lv_at hl 1 rfl) ?_
                            refine gX11_14 S hK hT ha kf_X11_45 dX11_fresh_172 (fun hk72 => ?_)
                            refine lv_iload hx hb dX11_fresh_175 (lv_at hl 6 rfl) ?_
                            refine al_0 S hK hT hk72 ar_38 (by decide) (z_X11_fresh_14 x24.toInt x31.toInt x43.toInt x46.toInt x52.toInt x56.toInt N25 N47 (aI ar1 (10 * x24.toInt + (0 : Int))) (aI ar1 (10 * x24.toInt + (1 : Int))) (aI ar1 (10 * x24.toInt + (2 : Int))) (aI ar1 (10 * x24.toInt + (3 : Int))) hf26 hm27 c29 t30 (xbz b32) c36 v40 t42 hf48 hm49 t51 c54 t55 (xr x24) (xr x31) (xr x43) (xr x46) (xr x52) (xr x56)) dX11_fresh_177 (fun x73 o74 => ?_)
                            refine lv_aload_n hx hb dX11_fresh_178 rfl (lv_at hl 1 rfl) ?_
                            refine gX11_13 S hK hT ha kf_X11_42 dX11_fresh_179 (fun hk75 => ?_)
                            refine lv_iload hx hb dX11_fresh_182 (lv_at hl 6 rfl) ?_
                            refine al_0 S hK hT hk75 ar_38 (by decide) (z_X11_fresh_15 x24.toInt x31.toInt x43.toInt x46.toInt x52.toInt x56.toInt N25 N47 (aI ar1 (10 * x24.toInt + (0 : Int))) (aI ar1 (10 * x24.toInt + (1 : Int))) (aI ar1 (10 * x24.toInt + (2 : Int))) (aI ar1 (10 * x24.toInt + (3 : Int))) hf26 hm27 c29 t30 (xbz b32) c36 v40 t42 hf48 hm49 t51 c54 t55 (xr x24) (xr x31) (xr x43) (xr x46) (xr x52) (xr x56)) dX11_fresh_184 (fun x76 o77 => ?_)
                            refine xi_ceq (tgt := 192) hx hb (rfl : Int32.toInt x73 = x73.toInt) (rfl : Int32.toInt x76 = x76.toInt) dX11_fresh_185 (by decide) (fun c78 => ?_) (fun c78 => ?_)
                            · exact J192 _ _ _ hT.nil hS (lv_sub hl [1, 2, 4, 5] rfl)
                            · refine lv_iconst (v := 1) hx hb dX11_fresh_188 (by decide) ?_
                              refine lv_goto (tgt := 193) hx hb dX11_fresh_189 (by decide) ?_
                              exact J193 1 _ _ _ hT.nil hS (lv_sub hl [1, 2, 4, 5] rfl)
                        · refine lv_iload hx hb dX11_fresh_136 (lv_at hl 0 rfl) ?_
                          have J162 : ∀ (H : Heap) (locs : List Loc) (ls : Array Slot), TW E K F (tl, [0, z1, z2, u9, u10, z5, z6, z7, z8, z9, z10, z11, z12, z13, z14, z15, z16, z17, z18, z19, z20], [ar0, ar1, f11, f12, f13, ar5, ar6, ar7, ar8, ar9, ar10]) [] H → va_S (xA E) s.heap H locs → lv_has ls 8 [(0, .ref a), (2, .int p1), (4, .int x24), (5, .int x46)] → W p l e rm_X11_fresh s m args below meth c H locs 0 0 Q (F0 m 162 ls [.int x45]) := by
                            intro H locs ls hT hS hl
                            refine lv_iconst (v := 0) hx hb dX11_fresh_162 (by decide) ?_
                            refine lv_goto (tgt := 193) hx hb dX11_fresh_163 (by decide) ?_
                            exact J193 0 _ _ _ hT.nil hS (lv_sub hl [0, 1, 2, 3] rfl)
                          refine xi_zeq (tgt := 162) hx hb (rfl : Int32.toInt x64 = x64.toInt) dX11_fresh_138 (by decide) (fun c79 => ?_) (fun c79 => ?_)
                          · exact J162 _ _ _ hT.nil hS (lv_sub hl [1, 2, 4, 5] rfl)
                          · refine lv_aload_n hx hb dX11_fresh_141 rfl (lv_at hl 1 rfl) ?_
                            refine gX11_11 S hK hT ha kf_X11_36 dX11_fresh_142 (fun hk80 => ?_)
                            refine lv_iload hx hb dX11_fresh_145 (lv_at hl 6 rfl) ?_
                            refine al_0 S hK hT hk80 ar_38 (by decide) (z_X11_fresh_16 x24.toInt x31.toInt x43.toInt x46.toInt x52.toInt x56.toInt N25 N47 (aI ar1 (10 * x24.toInt + (0 : Int))) (aI ar1 (10 * x24.toInt + (1 : Int))) (aI ar1 (10 * x24.toInt + (2 : Int))) (aI ar1 (10 * x24.toInt + (3 : Int))) hf26 hm27 c29 t30 (xbz b32) c36 v40 t42 hf48 hm49 t51 c54 t55 (xr x24) (xr x31) (xr x43) (xr x46) (xr x52) (xr x56)) dX11_fresh_147 (fun x81 o82 => ?_)
                            refine lv_aload_n hx hb dX11_fresh_148 rfl (lv_at hl 1 rfl) ?_
                            refine gX11_14 S hK hT ha kf_X11_45 dX11_fresh_149 (fun hk83 => ?_)
                            refine lv_iload hx hb dX11_fresh_152 (lv_at hl 6 rfl) ?_
                            refine al_0 S hK hT hk83 ar_38 (by decide) (z_X11_fresh_17 x24.toInt x31.toInt x43.toInt x46.toInt x52.toInt x56.toInt N25 N47 (aI ar1 (10 * x24.toInt + (0 : Int))) (aI ar1 (10 * x24.toInt + (1 : Int))) (aI ar1 (10 * x24.toInt + (2 : Int))) (aI ar1 (10 * x24.toInt + (3 : Int))) hf26 hm27 c29 t30 (xbz b32) c36 v40 t42 hf48 hm49 t51 c54 t55 (xr x24) (xr x31) (xr x43) (xr x46) (xr x52) (xr x56)) dX11_fresh_154 (fun x84 o85 => ?_)
                            refine xi_ceq (tgt := 162) hx hb (rfl : Int32.toInt x81 = x81.toInt) (rfl : Int32.toInt x84 = x84.toInt) dX11_fresh_155 (by decide) (fun c86 => ?_) (fun c86 => ?_)
                            · exact J162 _ _ _ hT.nil hS (lv_sub hl [1, 2, 4, 5] rfl)
                            · refine lv_iconst (v := 1) hx hb dX11_fresh_158 (by decide) ?_
                              refine lv_goto (tgt := 193) hx hb dX11_fresh_159 (by decide) ?_
                              exact J193 1 _ _ _ hT.nil hS (lv_sub hl [1, 2, 4, 5] rfl)
                      refine xi_ceq (tgt := 128) hx hb (rfl : Int32.toInt x59 = x59.toInt) (rfl : Int32.toInt x62 = x62.toInt) dX11_fresh_121 (by decide) (fun c87 => ?_) (fun c87 => ?_)
                      · refine lv_iconst (v := 0) hx hb dX11_fresh_128 (by decide) ?_
                        exact J129 0 _ _ _ hT.nil hS (lv_sub hl [1, 2, 3, 4, 5, 0] rfl)
                      · refine lv_iconst (v := 1) hx hb dX11_fresh_124 (by decide) ?_
                        refine lv_goto (tgt := 129) hx hb dX11_fresh_125 (by decide) ?_
                        exact J129 1 _ _ _ hT.nil hS (lv_sub hl [1, 2, 3, 4, 5, 0] rfl)
                exact L87 4294967297 x23 x43 _ _ _ (z_X11_fresh_18 x24.toInt x31.toInt x43.toInt N25 (aI ar1 (10 * x24.toInt + (0 : Int))) (aI ar1 (10 * x24.toInt + (1 : Int))) (aI ar1 (10 * x24.toInt + (2 : Int))) (aI ar1 (10 * x24.toInt + (3 : Int))) hf26 hm27 c29 t30 (xbz b32) c36 v40 t42 (xr x24) (xr x31) (xr x43)) (z_X11_fresh_19 x24.toInt x31.toInt x43.toInt N25 (aI ar1 (10 * x24.toInt + (0 : Int))) (aI ar1 (10 * x24.toInt + (1 : Int))) (aI ar1 (10 * x24.toInt + (2 : Int))) (aI ar1 (10 * x24.toInt + (3 : Int))) hf26 hm27 c29 t30 (xbz b32) c36 v40 t42 (xr x24) (xr x31) (xr x43)) hT.nil hS (lv_sub hl [1, 2, 3, 4, 0] rfl)
      exact L51 4294967297 0 0 _ _ _ (by decide) (by decide) hT.nil hS (lv_sub hl [2, 4, 1, 0] rfl)
    · refine lv_iconst (v := (-1)) hx hb dX11_fresh_23 (by decide) ?_
      exact x_ri hx hb hr hlk hQ (Nat.le_of_ble_eq_true rfl) (Nat.le_of_ble_eq_true rfl) hS dX11_fresh_24 (0, z3, z4, ar2, ar3, ar4) ⟨_, rfl⟩ hT.nil

theorem z_X11_question_1 (a0 : Int) (a1 : Int) (a2 : Int) (h0 : a1 = 0 ∨ (a1 = 1 ∧ 0 ≤ a0 ∧ a0 ≤ 11 ∧ 0 ≤ a2)) (h1 : a1 = 0 ∨ a1 = 1) (h2 : ¬ (a1 = 0)) (r0 : -2147483648 ≤ a0 ∧ a0 < 2147483648) (r1 : -2147483648 ≤ a1 ∧ a1 < 2147483648) : 0 ≤ a0 ∧ a0 ≤ 11 := by omega
theorem z_X11_question_2 (a0 : Int) (a1 : Int) (a2 : Int) (a3 : Int) (h0 : a1 = 0 ∨ (a1 = 1 ∧ 0 ≤ a0 ∧ a0 ≤ 11 ∧ 0 ≤ a3)) (h1 : a1 = 0 ∨ a1 = 1) (h2 : ¬ (a1 = 0)) (h3 : ((a3 = 2 ∨ a3 = 4 ∨ a3 = 5) ∧ a2 = 0) ∨ (a3 ≠ 2 ∧ a3 ≠ 4 ∧ a3 ≠ 5 ∧ a2 = -99)) (r0 : -2147483648 ≤ a0 ∧ a0 < 2147483648) (r1 : -2147483648 ≤ a1 ∧ a1 < 2147483648) (r2 : -2147483648 ≤ a2 ∧ a2 < 2147483648) : 0 ≤ a0 ∧ a0 ≤ 11 := by omega
theorem z_X11_question_3 (a0 : Int) (a1 : Int) (a2 : Int) (a3 : Int) (a4 : Int) (a5 : Int) (a6 : Int) (h0 : a1 = 0 ∨ (a1 = 1 ∧ 0 ≤ a0 ∧ a0 ≤ 11 ∧ 0 ≤ a3)) (h1 : a1 = 0 ∨ a1 = 1) (h2 : ¬ (a1 = 0)) (h3 : ((a3 = 2 ∨ a3 = 4 ∨ a3 = 5) ∧ a2 = 0) ∨ (a3 ≠ 2 ∧ a3 ≠ 4 ∧ a3 ≠ 5 ∧ a2 = -99)) (h4 : (-1 ≤ a3 ∧ a3 ≤ 5) ∧ (0 ≤ a4 ∧ a4 ≤ 2) ∧ (0 ≤ a5 ∧ a5 ≤ 2) ∧ (-1 ≤ a6 ∧ a6 ≤ 2) ∧ (a3 = 1 ∨ a3 = 3 ∨ a3 = 4 → 0 ≤ a6)) (r0 : -2147483648 ≤ a0 ∧ a0 < 2147483648) (r1 : -2147483648 ≤ a1 ∧ a1 < 2147483648) (r2 : -2147483648 ≤ a2 ∧ a2 < 2147483648) : 0 ≤ a0 ∧ a0 ≤ 11 := by omega
theorem z_X11_question_4 (a0 : Int) (a1 : Int) (a2 : Int) (a3 : Int) (a4 : Int) (a5 : Int) (a6 : Int) (a7 : Int) (a8 : Int) (a9 : Int) (h0 : a4 = 0 ∨ (a4 = 1 ∧ 0 ≤ a0 ∧ a0 ≤ 11 ∧ 0 ≤ a6)) (h1 : a4 = 0 ∨ a4 = 1) (h2 : ¬ (a4 = 0)) (h3 : ((a6 = 2 ∨ a6 = 4 ∨ a6 = 5) ∧ a5 = 0) ∨ (a6 ≠ 2 ∧ a6 ≠ 4 ∧ a6 ≠ 5 ∧ a5 = -99)) (h4 : (-1 ≤ a6 ∧ a6 ≤ 5) ∧ (0 ≤ a7 ∧ a7 ≤ 2) ∧ (0 ≤ a8 ∧ a8 ≤ 2) ∧ (-1 ≤ a9 ∧ a9 ≤ 2) ∧ (a6 = 1 ∨ a6 = 3 ∨ a6 = 4 → 0 ≤ a9)) (h5 : ((a6 = 2 ∨ a6 = 4 ∨ a6 = 5) ∧ a2 = 29) ∨ (a6 ≠ 2 ∧ a6 ≠ 4 ∧ a6 ≠ 5 ∧ a2 = 99)) (h6 : (a3 = 1 ∧ a5 ≤ a1 ∧ a1 ≤ a2) ∨ (a3 = 0 ∧ (a1 < a5 ∨ a2 < a1))) (h7 : ¬ (a3 = 0)) (r0 : -2147483648 ≤ a0 ∧ a0 < 2147483648) (r1 : -2147483648 ≤ a1 ∧ a1 < 2147483648) (r2 : -2147483648 ≤ a2 ∧ a2 < 2147483648) (r3 : -2147483648 ≤ a3 ∧ a3 < 2147483648) (r4 : -2147483648 ≤ a4 ∧ a4 < 2147483648) (r5 : -2147483648 ≤ a5 ∧ a5 < 2147483648) : 0 ≤ a0 ∧ a0 ≤ 11 := by omega
theorem z_X11_question_5 (a0 : Int) (a1 : Int) (a2 : Int) (a3 : Int) (a4 : Int) (a5 : Int) (a6 : Int) (a7 : Int) (a8 : Int) (a9 : Int) (h0 : a4 = 0 ∨ (a4 = 1 ∧ 0 ≤ a0 ∧ a0 ≤ 11 ∧ 0 ≤ a6)) (h1 : a4 = 0 ∨ a4 = 1) (h2 : ¬ (a4 = 0)) (h3 : ((a6 = 2 ∨ a6 = 4 ∨ a6 = 5) ∧ a5 = 0) ∨ (a6 ≠ 2 ∧ a6 ≠ 4 ∧ a6 ≠ 5 ∧ a5 = -99)) (h4 : (-1 ≤ a6 ∧ a6 ≤ 5) ∧ (0 ≤ a7 ∧ a7 ≤ 2) ∧ (0 ≤ a8 ∧ a8 ≤ 2) ∧ (-1 ≤ a9 ∧ a9 ≤ 2) ∧ (a6 = 1 ∨ a6 = 3 ∨ a6 = 4 → 0 ≤ a9)) (h5 : ((a6 = 2 ∨ a6 = 4 ∨ a6 = 5) ∧ a2 = 29) ∨ (a6 ≠ 2 ∧ a6 ≠ 4 ∧ a6 ≠ 5 ∧ a2 = 99)) (h6 : (a3 = 1 ∧ a5 ≤ a1 ∧ a1 ≤ a2) ∨ (a3 = 0 ∧ (a1 < a5 ∨ a2 < a1))) (h7 : ¬ (a3 = 0)) (r0 : -2147483648 ≤ a0 ∧ a0 < 2147483648) (r1 : -2147483648 ≤ a1 ∧ a1 < 2147483648) (r2 : -2147483648 ≤ a2 ∧ a2 < 2147483648) (r3 : -2147483648 ≤ a3 ∧ a3 < 2147483648) (r4 : -2147483648 ≤ a4 ∧ a4 < 2147483648) (r5 : -2147483648 ≤ a5 ∧ a5 < 2147483648) : 0 ≤ a6 := by omega
theorem z_X11_question_6 (a0 : Int) (a1 : Int) (a2 : Int) (a3 : Int) (a4 : Int) (a5 : Int) (a6 : Int) (a7 : Int) (a8 : Int) (a9 : Int) (h0 : a4 = 0 ∨ (a4 = 1 ∧ 0 ≤ a0 ∧ a0 ≤ 11 ∧ 0 ≤ a6)) (h1 : a4 = 0 ∨ a4 = 1) (h2 : ¬ (a4 = 0)) (h3 : ((a6 = 2 ∨ a6 = 4 ∨ a6 = 5) ∧ a5 = 0) ∨ (a6 ≠ 2 ∧ a6 ≠ 4 ∧ a6 ≠ 5 ∧ a5 = -99)) (h4 : (-1 ≤ a6 ∧ a6 ≤ 5) ∧ (0 ≤ a7 ∧ a7 ≤ 2) ∧ (0 ≤ a8 ∧ a8 ≤ 2) ∧ (-1 ≤ a9 ∧ a9 ≤ 2) ∧ (a6 = 1 ∨ a6 = 3 ∨ a6 = 4 → 0 ≤ a9)) (h5 : ((a6 = 2 ∨ a6 = 4 ∨ a6 = 5) ∧ a2 = 29) ∨ (a6 ≠ 2 ∧ a6 ≠ 4 ∧ a6 ≠ 5 ∧ a2 = 99)) (h6 : (a3 = 1 ∧ a5 ≤ a1 ∧ a1 ≤ a2) ∨ (a3 = 0 ∧ (a1 < a5 ∨ a2 < a1))) (h7 : ¬ (a3 = 0)) (r0 : -2147483648 ≤ a0 ∧ a0 < 2147483648) (r1 : -2147483648 ≤ a1 ∧ a1 < 2147483648) (r2 : -2147483648 ≤ a2 ∧ a2 < 2147483648) (r3 : -2147483648 ≤ a3 ∧ a3 < 2147483648) (r4 : -2147483648 ≤ a4 ∧ a4 < 2147483648) (r5 : -2147483648 ≤ a5 ∧ a5 < 2147483648) : a6 = 2 ∨ a6 = 5 → 0 ≤ a1 ∧ a1 ≤ 29 := by omega
theorem z_X11_question_7 (a0 : Int) (a1 : Int) (a2 : Int) (a3 : Int) (a4 : Int) (a5 : Int) (a6 : Int) (a7 : Int) (a8 : Int) (a9 : Int) (h0 : a4 = 0 ∨ (a4 = 1 ∧ 0 ≤ a0 ∧ a0 ≤ 11 ∧ 0 ≤ a6)) (h1 : a4 = 0 ∨ a4 = 1) (h2 : ¬ (a4 = 0)) (h3 : ((a6 = 2 ∨ a6 = 4 ∨ a6 = 5) ∧ a5 = 0) ∨ (a6 ≠ 2 ∧ a6 ≠ 4 ∧ a6 ≠ 5 ∧ a5 = -99)) (h4 : (-1 ≤ a6 ∧ a6 ≤ 5) ∧ (0 ≤ a7 ∧ a7 ≤ 2) ∧ (0 ≤ a8 ∧ a8 ≤ 2) ∧ (-1 ≤ a9 ∧ a9 ≤ 2) ∧ (a6 = 1 ∨ a6 = 3 ∨ a6 = 4 → 0 ≤ a9)) (h5 : ((a6 = 2 ∨ a6 = 4 ∨ a6 = 5) ∧ a2 = 29) ∨ (a6 ≠ 2 ∧ a6 ≠ 4 ∧ a6 ≠ 5 ∧ a2 = 99)) (h6 : (a3 = 1 ∧ a5 ≤ a1 ∧ a1 ≤ a2) ∨ (a3 = 0 ∧ (a1 < a5 ∨ a2 < a1))) (h7 : ¬ (a3 = 0)) (r0 : -2147483648 ≤ a0 ∧ a0 < 2147483648) (r1 : -2147483648 ≤ a1 ∧ a1 < 2147483648) (r2 : -2147483648 ≤ a2 ∧ a2 < 2147483648) (r3 : -2147483648 ≤ a3 ∧ a3 < 2147483648) (r4 : -2147483648 ≤ a4 ∧ a4 < 2147483648) (r5 : -2147483648 ≤ a5 ∧ a5 < 2147483648) : 0 ≤ a0 ∧ a0 ≤ 11 := by omega
theorem z_X11_question_8 (a0 : Int) (a1 : Int) (a2 : Int) (a3 : Int) (a4 : Int) (a5 : Int) (a6 : Int) (a7 : Int) (a8 : Int) (a9 : Int) (h0 : a4 = 0 ∨ (a4 = 1 ∧ 0 ≤ a0 ∧ a0 ≤ 11 ∧ 0 ≤ a6)) (h1 : a4 = 0 ∨ a4 = 1) (h2 : ¬ (a4 = 0)) (h3 : ((a6 = 2 ∨ a6 = 4 ∨ a6 = 5) ∧ a5 = 0) ∨ (a6 ≠ 2 ∧ a6 ≠ 4 ∧ a6 ≠ 5 ∧ a5 = -99)) (h4 : (-1 ≤ a6 ∧ a6 ≤ 5) ∧ (0 ≤ a7 ∧ a7 ≤ 2) ∧ (0 ≤ a8 ∧ a8 ≤ 2) ∧ (-1 ≤ a9 ∧ a9 ≤ 2) ∧ (a6 = 1 ∨ a6 = 3 ∨ a6 = 4 → 0 ≤ a9)) (h5 : ((a6 = 2 ∨ a6 = 4 ∨ a6 = 5) ∧ a2 = 29) ∨ (a6 ≠ 2 ∧ a6 ≠ 4 ∧ a6 ≠ 5 ∧ a2 = 99)) (h6 : (a3 = 1 ∧ a5 ≤ a1 ∧ a1 ≤ a2) ∨ (a3 = 0 ∧ (a1 < a5 ∨ a2 < a1))) (h7 : ¬ (a3 = 0)) (r0 : -2147483648 ≤ a0 ∧ a0 < 2147483648) (r1 : -2147483648 ≤ a1 ∧ a1 < 2147483648) (r2 : -2147483648 ≤ a2 ∧ a2 < 2147483648) (r3 : -2147483648 ≤ a3 ∧ a3 < 2147483648) (r4 : -2147483648 ≤ a4 ∧ a4 < 2147483648) (r5 : -2147483648 ≤ a5 ∧ a5 < 2147483648) : 0 ≤ a6 := by omega
theorem z_X11_question_9 (a0 : Int) (a1 : Int) (a2 : Int) (a3 : Int) (a4 : Int) (a5 : Int) (a6 : Int) (a7 : Int) (a8 : Int) (a9 : Int) (h0 : a4 = 0 ∨ (a4 = 1 ∧ 0 ≤ a0 ∧ a0 ≤ 11 ∧ 0 ≤ a6)) (h1 : a4 = 0 ∨ a4 = 1) (h2 : ¬ (a4 = 0)) (h3 : ((a6 = 2 ∨ a6 = 4 ∨ a6 = 5) ∧ a5 = 0) ∨ (a6 ≠ 2 ∧ a6 ≠ 4 ∧ a6 ≠ 5 ∧ a5 = -99)) (h4 : (-1 ≤ a6 ∧ a6 ≤ 5) ∧ (0 ≤ a7 ∧ a7 ≤ 2) ∧ (0 ≤ a8 ∧ a8 ≤ 2) ∧ (-1 ≤ a9 ∧ a9 ≤ 2) ∧ (a6 = 1 ∨ a6 = 3 ∨ a6 = 4 → 0 ≤ a9)) (h5 : ((a6 = 2 ∨ a6 = 4 ∨ a6 = 5) ∧ a2 = 29) ∨ (a6 ≠ 2 ∧ a6 ≠ 4 ∧ a6 ≠ 5 ∧ a2 = 99)) (h6 : (a3 = 1 ∧ a5 ≤ a1 ∧ a1 ≤ a2) ∨ (a3 = 0 ∧ (a1 < a5 ∨ a2 < a1))) (h7 : ¬ (a3 = 0)) (r0 : -2147483648 ≤ a0 ∧ a0 < 2147483648) (r1 : -2147483648 ≤ a1 ∧ a1 < 2147483648) (r2 : -2147483648 ≤ a2 ∧ a2 < 2147483648) (r3 : -2147483648 ≤ a3 ∧ a3 < 2147483648) (r4 : -2147483648 ≤ a4 ∧ a4 < 2147483648) (r5 : -2147483648 ≤ a5 ∧ a5 < 2147483648) : a6 = 2 ∨ a6 = 5 → 0 ≤ a1 ∧ a1 ≤ 29 := by omega
abbrev rm_X11_question : Room := { frames := 4, cells := 0, slots := 0, locals := 104 }
set_option maxHeartbeats 4000000 in
set_option maxRecDepth 100000 in
theorem c_X11_question (l : Launch) (E : XE) (K : Nat → Nat) (F : Nat → Nat → Nat) (tl z0 z1 z2 z3 z4 z5 z6 z7 z8 z9 z10 z11 z12 z13 z14 z15 z16 z17 z18 z19 z20 : Int32) (ar0 ar1 ar2 ar3 ar4 ar5 ar6 ar7 ar8 ar9 ar10 : Nat → Int32) (a : Nat) (p0 : Int32) (p1 : Int32) (p2 : Int32) (ha : K a = 13) (hR : RV ar1) : Met l yX11_question (xw yX11_question cX11_question 4 (some .int)) rm_X11_question (va_Pc [.ref a, .int p0, .int p1, .int p2] (XP E K F (tl, [z0, z1, z2, z3, z4, z5, z6, z7, z8, z9, z10, z11, z12, z13, z14, z15, z16, z17, z18, z19, z20], [ar0, ar1, ar2, ar3, ar4, ar5, ar6, ar7, ar8, ar9, ar10]))) (XQ E (fun v (u : Int32) => ∃ r : Int32, v = .int r) (fun u H => TW E K F (tl, [u, z1, z2, z3, z4, z5, z6, z7, z8, z9, z10, z11, z12, z13, z14, z15, z16, z17, z18, z19, z20], [ar0, ar1, ar2, ar3, ar4, ar5, ar6, ar7, ar8, ar9, ar10]) [] H)) 0 0 (xA E) := by
  refine x_enter (by decide) (Nat.le_of_ble_eq_true rfl) ?_
  intro p e s m args below meth c Q S hr hlk hnm hQ hP ls hl
  obtain ⟨hz, hK, hT⟩ := hP
  obtain ⟨hx, hb, -, -, -⟩ := id S
  obtain ⟨H, hT, hS, hgo⟩ : ∃ H : Heap, TW E K F (tl, [z0, z1, z2, z3, z4, z5, z6, z7, z8, z9, z10, z11, z12, z13, z14, z15, z16, z17, z18, z19, z20], [ar0, ar1, ar2, ar3, ar4, ar5, ar6, ar7, ar8, ar9, ar10]) [] H ∧ va_S (xA E) s.heap H [] ∧ H = s.heap := ⟨_, hT, va_S.rf, rfl⟩
  rw [← hgo]
  have hl : lv_has ls 4 [(0, .ref a), (1, .int p0), (2, .int p1), (3, .int p2)] := hl
  refine lv_aload_n hx hb dX11_question_0 rfl (lv_at hl 0 rfl) ?_
  refine lv_iconst (v := 0) hx hb dX11_question_1 (by decide) ?_
  refine pX11_0 (kq := []) (v := 0) S hK hT hS ha kf_X11_134 (Nat.le_of_ble_eq_true rfl) dX11_question_2 (fun _ h => by cases h) (fun H locs hT hS => ?_)
  have hT : TW E K F (tl, [0, z1, z2, z3, z4, z5, z6, z7, z8, z9, z10, z11, z12, z13, z14, z15, z16, z17, z18, z19, z20], [ar0, ar1, ar2, ar3, ar4, ar5, ar6, ar7, ar8, ar9, ar10]) [] H := hT
  refine lv_aload_n hx hb dX11_question_5 rfl (lv_at hl 0 rfl) ?_
  refine lv_iload_n hx hb dX11_question_6 rfl (lv_at hl 1 rfl) ?_
  refine x_clp (x_runV (b := a) (As := [.int p0]) (rest := []) S (c_X11_isRule l E K F tl 0 z1 z2 z3 z4 z5 z6 z7 z8 z9 z10 z11 z12 z13 z14 z15 z16 z17 z18 z19 z20 ar0 ar1 ar2 ar3 ar4 ar5 ar6 ar7 ar8 ar9 ar10 H a p0 ha hR) mv_X11_isRule km_X11_162 rfl rfl ⟨Nat.le_of_ble_eq_true rfl, Nat.le_of_ble_eq_true rfl⟩ (rc_13 hK hT ha) hK (fun _ => XPh.blind) (fun U hU hW => XPh.at hK hz hS hT hU hW) rfl hl.1 (Nat.le_of_ble_eq_true rfl) dX11_question_7 ⟨Nat.le_of_ble_eq_true rfl, Nat.le_of_ble_eq_true rfl⟩) hS ?_
  rintro _ _ locs ⟨x2, rfl, b3, t1⟩ hS
  have t1 : x2.toInt = 0 ∨ (x2.toInt = 1 ∧ 0 ≤ p0.toInt ∧ p0.toInt ≤ 11 ∧ 0 ≤ (aI ar1 (10 * p0.toInt + (0 : Int)))) := t1
  refine xi_zeq (tgt := 43) hx hb (rfl : Int32.toInt x2 = x2.toInt) dX11_question_10 (by decide) (fun c4 => ?_) (fun c4 => ?_)
  · refine lv_ldc (v := (-2147483648)) hx hb S.2.2.2.1 (S.2.2.2.2 _ (List.mem_cons_of_mem _ kc_X11_57)) dX11_question_43 ?_
    exact x_ri hx hb hr hlk hQ (Nat.le_of_ble_eq_true rfl) (Nat.le_of_ble_eq_true rfl) hS dX11_question_45 (0) ⟨_, rfl⟩ hT.nil
  · refine lv_iload_n hx hb dX11_question_13 rfl (lv_at hl 2 rfl) ?_
    refine lv_i2l (v := p1.toInt64) hx hb dX11_question_14 rfl ?_
    refine lv_aload_n hx hb dX11_question_15 rfl (lv_at hl 0 rfl) ?_
    refine lv_iload_n hx hb dX11_question_16 rfl (lv_at hl 1 rfl) ?_
    refine x_clp (x_runV (b := a) (As := [.int p0]) (rest := [.long p1.toInt64]) S (c_X11_firstSubject l E K F tl 0 z1 z2 z3 z4 z5 z6 z7 z8 z9 z10 z11 z12 z13 z14 z15 z16 z17 z18 z19 z20 ar0 ar1 ar2 ar3 ar4 ar5 ar6 ar7 ar8 ar9 ar10 H a p0 ha hR (z_X11_question_1 p0.toInt x2.toInt (aI ar1 (10 * p0.toInt + (0 : Int))) t1 (xbz b3) c4 (xr p0) (xr x2))) mv_X11_firstSubject km_X11_179 rfl rfl ⟨Nat.le_of_ble_eq_true rfl, Nat.le_of_ble_eq_true rfl⟩ (rc_13 hK hT ha) hK (fun _ => XPh.blind) (fun U hU hW => XPh.at hK hz hS hT hU hW) rfl hl.1 (Nat.le_of_ble_eq_true rfl) dX11_question_17 ⟨Nat.le_of_ble_eq_true rfl, Nat.le_of_ble_eq_true rfl⟩) hS ?_
    rintro _ _ locs ⟨x6, rfl, t5⟩ hS
    have t5 : (((aI ar1 (10 * p0.toInt + (0 : Int))) = 2 ∨ (aI ar1 (10 * p0.toInt + (0 : Int))) = 4 ∨ (aI ar1 (10 * p0.toInt + (0 : Int))) = 5) ∧ x6.toInt = 0) ∨ ((aI ar1 (10 * p0.toInt + (0 : Int))) ≠ 2 ∧ (aI ar1 (10 * p0.toInt + (0 : Int))) ≠ 4 ∧ (aI ar1 (10 * p0.toInt + (0 : Int))) ≠ 5 ∧ x6.toInt = -99) := t5
    have v8 : (-1 ≤ (aI ar1 (10 * p0.toInt + (0 : Int))) ∧ (aI ar1 (10 * p0.toInt + (0 : Int))) ≤ 5) ∧ (0 ≤ (aI ar1 (10 * p0.toInt + (1 : Int))) ∧ (aI ar1 (10 * p0.toInt + (1 : Int))) ≤ 2) ∧ (0 ≤ (aI ar1 (10 * p0.toInt + (2 : Int))) ∧ (aI ar1 (10 * p0.toInt + (2 : Int))) ≤ 2) ∧ (-1 ≤ (aI ar1 (10 * p0.toInt + (3 : Int))) ∧ (aI ar1 (10 * p0.toInt + (3 : Int))) ≤ 2) ∧ ((aI ar1 (10 * p0.toInt + (0 : Int))) = 1 ∨ (aI ar1 (10 * p0.toInt + (0 : Int))) = 3 ∨ (aI ar1 (10 * p0.toInt + (0 : Int))) = 4 → 0 ≤ (aI ar1 (10 * p0.toInt + (3 : Int)))) := RV.row hR (z_X11_question_2 p0.toInt x2.toInt x6.toInt (aI ar1 (10 * p0.toInt + (0 : Int))) t1 (xbz b3) c4 t5 (xr p0) (xr x2) (xr x6))
    refine lv_i2l (v := x6.toInt64) hx hb dX11_question_20 rfl ?_
    refine lv_aload_n hx hb dX11_question_21 rfl (lv_at hl 0 rfl) ?_
    refine lv_iload_n hx hb dX11_question_22 rfl (lv_at hl 1 rfl) ?_
    refine x_clp (x_runV (b := a) (As := [.int p0]) (rest := [.long x6.toInt64, .long p1.toInt64]) S (c_X11_lastSubject l E K F tl 0 z1 z2 z3 z4 z5 z6 z7 z8 z9 z10 z11 z12 z13 z14 z15 z16 z17 z18 z19 z20 ar0 ar1 ar2 ar3 ar4 ar5 ar6 ar7 ar8 ar9 ar10 H a p0 ha hR (z_X11_question_3 p0.toInt x2.toInt x6.toInt (aI ar1 (10 * p0.toInt + (0 : Int))) (aI ar1 (10 * p0.toInt + (1 : Int))) (aI ar1 (10 * p0.toInt + (2 : Int))) (aI ar1 (10 * p0.toInt + (3 : Int))) t1 (xbz b3) c4 t5 v8 (xr p0) (xr x2) (xr x6))) mv_X11_lastSubject km_X11_183 rfl rfl ⟨Nat.le_of_ble_eq_true rfl, Nat.le_of_ble_eq_true rfl⟩ (rc_13 hK hT ha) hK (fun _ => XPh.blind) (fun U hU hW => XPh.at hK hz hS hT hU hW) rfl hl.1 (Nat.le_of_ble_eq_true rfl) dX11_question_23 ⟨Nat.le_of_ble_eq_true rfl, Nat.le_of_ble_eq_true rfl⟩) hS ?_
    rintro _ _ locs ⟨x10, rfl, t9⟩ hS
    have t9 : (((aI ar1 (10 * p0.toInt + (0 : Int))) = 2 ∨ (aI ar1 (10 * p0.toInt + (0 : Int))) = 4 ∨ (aI ar1 (10 * p0.toInt + (0 : Int))) = 5) ∧ x10.toInt = 29) ∨ ((aI ar1 (10 * p0.toInt + (0 : Int))) ≠ 2 ∧ (aI ar1 (10 * p0.toInt + (0 : Int))) ≠ 4 ∧ (aI ar1 (10 * p0.toInt + (0 : Int))) ≠ 5 ∧ x10.toInt = 99) := t9
    refine lv_i2l (v := x10.toInt64) hx hb dX11_question_26 rfl ?_
    refine x_clp (x_runS (As := [.long p1.toInt64, .long x6.toInt64, .long x10.toInt64]) (rest := []) S (c_X11_in l E K F tl 0 z1 z2 z3 z4 z5 z6 z7 z8 z9 z10 z11 z12 z13 z14 z15 z16 z17 z18 z19 z20 ar0 ar1 ar2 ar3 ar4 ar5 ar6 ar7 ar8 ar9 ar10 H p1.toInt64 x6.toInt64 x10.toInt64 p1.toInt x6.toInt x10.toInt (xl_i2l (rfl : Int32.toInt p1 = p1.toInt)) (xl_i2l (rfl : Int32.toInt x6 = x6.toInt)) (xl_i2l (rfl : Int32.toInt x10 = x10.toInt))) ms_X11_in km_X11_139 rfl rfl ⟨Nat.le_of_ble_eq_true rfl, Nat.le_of_ble_eq_true rfl⟩ hK (fun _ => XPh.blind) (fun U hU hW => XPh.at hK hz hS hT hU hW) rfl hl.1 (Nat.le_of_ble_eq_true rfl) dX11_question_27 ⟨Nat.le_of_ble_eq_true rfl, Nat.le_of_ble_eq_true rfl⟩) hS ?_
    rintro _ _ locs ⟨x12, rfl, b13, t14⟩ hS
    have t14 : (x12.toInt = 1 ∧ x6.toInt ≤ p1.toInt ∧ p1.toInt ≤ x10.toInt) ∨ (x12.toInt = 0 ∧ (p1.toInt < x6.toInt ∨ x10.toInt < p1.toInt)) := t14
    refine xi_zeq (tgt := 43) hx hb (rfl : Int32.toInt x12 = x12.toInt) dX11_question_30 (by decide) (fun c15 => ?_) (fun c15 => ?_)
    · refine lv_ldc (v := (-2147483648)) hx hb S.2.2.2.1 (S.2.2.2.2 _ (List.mem_cons_of_mem _ kc_X11_57)) dX11_question_43 ?_
      exact x_ri hx hb hr hlk hQ (Nat.le_of_ble_eq_true rfl) (Nat.le_of_ble_eq_true rfl) hS dX11_question_45 (0) ⟨_, rfl⟩ hT.nil
    · refine lv_iload_n hx hb dX11_question_33 rfl (lv_at hl 3 rfl) ?_
      refine lv_i2l (v := p2.toInt64) hx hb dX11_question_34 rfl ?_
      refine lv_lconst (v := (0 : Int64)) hx hb dX11_question_35 (by decide) ?_
      refine lv_lconst (v := (1 : Int64)) hx hb dX11_question_36 (by decide) ?_
      refine x_clp (x_runS (As := [.long p2.toInt64, .long (0 : Int64), .long (1 : Int64)]) (rest := []) S (c_X11_in l E K F tl 0 z1 z2 z3 z4 z5 z6 z7 z8 z9 z10 z11 z12 z13 z14 z15 z16 z17 z18 z19 z20 ar0 ar1 ar2 ar3 ar4 ar5 ar6 ar7 ar8 ar9 ar10 H p2.toInt64 (0 : Int64) (1 : Int64) p2.toInt (0 : Int) (1 : Int) (xl_i2l (rfl : Int32.toInt p2 = p2.toInt)) (by decide) (by decide)) ms_X11_in km_X11_139 rfl rfl ⟨Nat.le_of_ble_eq_true rfl, Nat.le_of_ble_eq_true rfl⟩ hK (fun _ => XPh.blind) (fun U hU hW => XPh.at hK hz hS hT hU hW) rfl hl.1 (Nat.le_of_ble_eq_true rfl) dX11_question_37 ⟨Nat.le_of_ble_eq_true rfl, Nat.le_of_ble_eq_true rfl⟩) hS ?_
      rintro _ _ locs ⟨x16, rfl, b17, t18⟩ hS
      have t18 : (x16.toInt = 1 ∧ (0 : Int) ≤ p2.toInt ∧ p2.toInt ≤ (1 : Int)) ∨ (x16.toInt = 0 ∧ (p2.toInt < (0 : Int) ∨ (1 : Int) < p2.toInt)) := t18
      refine xi_zne (tgt := 46) hx hb (rfl : Int32.toInt x16 = x16.toInt) dX11_question_40 (by decide) (fun c19 => ?_) (fun c19 => ?_)
      · refine lv_iload_n hx hb dX11_question_46 rfl (lv_at hl 3 rfl) ?_
        refine xi_zne (tgt := 64) hx hb (rfl : Int32.toInt p2 = p2.toInt) dX11_question_47 (by decide) (fun c20 => ?_) (fun c20 => ?_)
        · refine lv_aload_n hx hb dX11_question_64 rfl (lv_at hl 0 rfl) ?_
          refine lv_iload_n hx hb dX11_question_65 rfl (lv_at hl 1 rfl) ?_
          refine lv_iload_n hx hb dX11_question_66 rfl (lv_at hl 2 rfl) ?_
          refine lv_aload_n hx hb dX11_question_67 rfl (lv_at hl 0 rfl) ?_
          refine gX11_1 S hK hT ha kf_X11_9 dX11_question_68 (fun hk21 => ?_)
          refine lv_iconst (v := 0) hx hb dX11_question_71 (by decide) ?_
          refine x_clp (x_runV (b := a) (As := [.int p0, .int p1, .ref (F a 1), .int 0]) (rest := []) S (c_X11_fails l E K F tl 0 z1 z2 z3 z4 z5 z6 z7 z8 z9 z10 z11 z12 z13 z14 z15 z16 z17 z18 z19 z20 ar0 ar1 ar2 ar3 ar4 ar5 ar6 ar7 ar8 ar9 ar10 H a p0 p1 (F a 1) 0 ha (XO.a hk21 (by decide)) hR (z_X11_question_4 p0.toInt p1.toInt x10.toInt x12.toInt x2.toInt x6.toInt (aI ar1 (10 * p0.toInt + (0 : Int))) (aI ar1 (10 * p0.toInt + (1 : Int))) (aI ar1 (10 * p0.toInt + (2 : Int))) (aI ar1 (10 * p0.toInt + (3 : Int))) t1 (xbz b3) c4 t5 v8 t9 t14 c15 (xr p0) (xr p1) (xr x10) (xr x12) (xr x2) (xr x6)) (z_X11_question_5 p0.toInt p1.toInt x10.toInt x12.toInt x2.toInt x6.toInt (aI ar1 (10 * p0.toInt + (0 : Int))) (aI ar1 (10 * p0.toInt + (1 : Int))) (aI ar1 (10 * p0.toInt + (2 : Int))) (aI ar1 (10 * p0.toInt + (3 : Int))) t1 (xbz b3) c4 t5 v8 t9 t14 c15 (xr p0) (xr p1) (xr x10) (xr x12) (xr x2) (xr x6)) (z_X11_question_6 p0.toInt p1.toInt x10.toInt x12.toInt x2.toInt x6.toInt (aI ar1 (10 * p0.toInt + (0 : Int))) (aI ar1 (10 * p0.toInt + (1 : Int))) (aI ar1 (10 * p0.toInt + (2 : Int))) (aI ar1 (10 * p0.toInt + (3 : Int))) t1 (xbz b3) c4 t5 v8 t9 t14 c15 (xr p0) (xr p1) (xr x10) (xr x12) (xr x2) (xr x6))) mv_X11_fails km_X11_221 rfl rfl ⟨Nat.le_of_ble_eq_true rfl, Nat.le_of_ble_eq_true rfl⟩ (rc_13 hK hT ha) hK (fun _ => XPh.blind) (fun U hU hW => XPh.at hK hz hS hT hU hW) rfl hl.1 (Nat.le_of_ble_eq_true rfl) dX11_question_72 ⟨Nat.le_of_ble_eq_true rfl, Nat.le_of_ble_eq_true rfl⟩) hS ?_
          rintro _ _ locs ⟨x22, rfl, b23⟩ hS
          refine xi_zeq (tgt := 82) hx hb (rfl : Int32.toInt x22 = x22.toInt) dX11_question_75 (by decide) (fun c24 => ?_) (fun c24 => ?_)
          · refine lv_iconst (v := 0) hx hb dX11_question_82 (by decide) ?_
            exact x_ri hx hb hr hlk hQ (Nat.le_of_ble_eq_true rfl) (Nat.le_of_ble_eq_true rfl) hS dX11_question_83 (0) ⟨_, rfl⟩ hT.nil
          · refine lv_iconst (v := 1) hx hb dX11_question_78 (by decide) ?_
            refine lv_goto (tgt := 83) hx hb dX11_question_79 (by decide) ?_
            exact x_ri hx hb hr hlk hQ (Nat.le_of_ble_eq_true rfl) (Nat.le_of_ble_eq_true rfl) hS dX11_question_83 (0) ⟨_, rfl⟩ hT.nil
        · refine lv_aload_n hx hb dX11_question_50 rfl (lv_at hl 0 rfl) ?_
          refine lv_iload_n hx hb dX11_question_51 rfl (lv_at hl 1 rfl) ?_
          refine lv_iload_n hx hb dX11_question_52 rfl (lv_at hl 2 rfl) ?_
          refine lv_aload_n hx hb dX11_question_53 rfl (lv_at hl 0 rfl) ?_
          refine gX11_1 S hK hT ha kf_X11_9 dX11_question_54 (fun hk25 => ?_)
          refine lv_iconst (v := 0) hx hb dX11_question_57 (by decide) ?_
          refine x_clp (x_runV (b := a) (As := [.int p0, .int p1, .ref (F a 1), .int 0]) (rest := []) S (c_X11_stateOf l E K F tl 0 z1 z2 z3 z4 z5 z6 z7 z8 z9 z10 z11 z12 z13 z14 z15 z16 z17 z18 z19 z20 ar0 ar1 ar2 ar3 ar4 ar5 ar6 ar7 ar8 ar9 ar10 H a p0 p1 (F a 1) 0 ha (XO.a hk25 (by decide)) hR (z_X11_question_7 p0.toInt p1.toInt x10.toInt x12.toInt x2.toInt x6.toInt (aI ar1 (10 * p0.toInt + (0 : Int))) (aI ar1 (10 * p0.toInt + (1 : Int))) (aI ar1 (10 * p0.toInt + (2 : Int))) (aI ar1 (10 * p0.toInt + (3 : Int))) t1 (xbz b3) c4 t5 v8 t9 t14 c15 (xr p0) (xr p1) (xr x10) (xr x12) (xr x2) (xr x6)) (z_X11_question_8 p0.toInt p1.toInt x10.toInt x12.toInt x2.toInt x6.toInt (aI ar1 (10 * p0.toInt + (0 : Int))) (aI ar1 (10 * p0.toInt + (1 : Int))) (aI ar1 (10 * p0.toInt + (2 : Int))) (aI ar1 (10 * p0.toInt + (3 : Int))) t1 (xbz b3) c4 t5 v8 t9 t14 c15 (xr p0) (xr p1) (xr x10) (xr x12) (xr x2) (xr x6)) (z_X11_question_9 p0.toInt p1.toInt x10.toInt x12.toInt x2.toInt x6.toInt (aI ar1 (10 * p0.toInt + (0 : Int))) (aI ar1 (10 * p0.toInt + (1 : Int))) (aI ar1 (10 * p0.toInt + (2 : Int))) (aI ar1 (10 * p0.toInt + (3 : Int))) t1 (xbz b3) c4 t5 v8 t9 t14 c15 (xr p0) (xr p1) (xr x10) (xr x12) (xr x2) (xr x6))) mv_X11_stateOf km_X11_189 rfl rfl ⟨Nat.le_of_ble_eq_true rfl, Nat.le_of_ble_eq_true rfl⟩ (rc_13 hK hT ha) hK (fun _ => XPh.blind) (fun U hU hW => XPh.at hK hz hS hT hU hW) rfl hl.1 (Nat.le_of_ble_eq_true rfl) dX11_question_58 ⟨Nat.le_of_ble_eq_true rfl, Nat.le_of_ble_eq_true rfl⟩) hS ?_
          rintro _ _ locs ⟨x26, rfl⟩ hS
          refine lv_goto (tgt := 83) hx hb dX11_question_61 (by decide) ?_
          exact x_ri hx hb hr hlk hQ (Nat.le_of_ble_eq_true rfl) (Nat.le_of_ble_eq_true rfl) hS dX11_question_83 (0) ⟨_, rfl⟩ hT.nil
      · refine lv_ldc (v := (-2147483648)) hx hb S.2.2.2.1 (S.2.2.2.2 _ (List.mem_cons_of_mem _ kc_X11_57)) dX11_question_43 ?_
        exact x_ri hx hb hr hlk hQ (Nat.le_of_ble_eq_true rfl) (Nat.le_of_ble_eq_true rfl) hS dX11_question_45 (0) ⟨_, rfl⟩ hT.nil

theorem z_X11_first_1 (a0 : Int) (h0 : (0 : Int) ≤ a0) (r0 : -2147483648 ≤ a0 ∧ a0 < 2147483648) : ¬ (2147483648 - a0 < ((0 : Nat) : Int)) := by omega
theorem z_X11_first_2 (a0 : Int) (a1 : Int) (a2 : Nat) (a3 : Nat) (h0 : 0 ≤ a0 ∧ a0 ≤ 2388 ∧ a0 ≤ ((a3 : Nat) : Int)) (h1 : (0 : Int) ≤ a1) (h2 : 2147483648 - a1 < ((a2 + 1 : Nat) : Int)) (h3 : a0 ≤ a1) (r0 : -2147483648 ≤ a0 ∧ a0 < 2147483648) (r1 : -2147483648 ≤ a1 ∧ a1 < 2147483648) : 0 ≤ a0 ∧ a0 ≤ 2388 ∧ a0 ≤ ((a3 : Nat) : Int) := by omega
theorem z_X11_first_3 (a0 : Int) (a1 : Int) (a2 : Int) (a3 : Nat) (a4 : Nat) (h0 : 0 ≤ a0 ∧ a0 ≤ 2388 ∧ a0 ≤ ((a4 : Nat) : Int)) (h1 : (0 : Int) ≤ a1) (h2 : 2147483648 - a1 < ((a3 + 1 : Nat) : Int)) (h3 : a0 ≤ a1) (h4 : a2 = -1 ∨ (0 ≤ a2 ∧ a2 < a0)) (h5 : a2 ≠ (-1 : Int)) (r0 : -2147483648 ≤ a0 ∧ a0 < 2147483648) (r1 : -2147483648 ≤ a1 ∧ a1 < 2147483648) (r2 : -2147483648 ≤ a2 ∧ a2 < 2147483648) : 0 ≤ a2 ∧ a2 < ((2400 : Nat) : Int) := by omega
theorem z_X11_first_4 (a0 : Int) (a1 : Int) (a2 : Int) (a3 : Nat) (a4 : Nat) (h0 : 0 ≤ a0 ∧ a0 ≤ 2388 ∧ a0 ≤ ((a4 : Nat) : Int)) (h1 : (0 : Int) ≤ a1) (h2 : 2147483648 - a1 < ((a3 + 1 : Nat) : Int)) (h3 : a0 ≤ a1) (h4 : a2 = -1 ∨ (0 ≤ a2 ∧ a2 < a0)) (h5 : a2 ≠ (-1 : Int)) (r0 : -2147483648 ≤ a0 ∧ a0 < 2147483648) (r1 : -2147483648 ≤ a1 ∧ a1 < 2147483648) (r2 : -2147483648 ≤ a2 ∧ a2 < 2147483648) : 0 ≤ a2 ∧ a2 < ((2400 : Nat) : Int) := by omega
theorem z_X11_first_5 (a0 : Int) (a1 : Int) (a2 : Int) (a3 : Nat) (a4 : Nat) (h0 : 0 ≤ a0 ∧ a0 ≤ 2388 ∧ a0 ≤ ((a4 : Nat) : Int)) (h1 : (0 : Int) ≤ a1) (h2 : 2147483648 - a1 < ((a3 + 1 : Nat) : Int)) (h3 : a0 ≤ a1) (h4 : a2 = -1 ∨ (0 ≤ a2 ∧ a2 < a0)) (h5 : a2 ≠ (-1 : Int)) (r0 : -2147483648 ≤ a0 ∧ a0 < 2147483648) (r1 : -2147483648 ≤ a1 ∧ a1 < 2147483648) (r2 : -2147483648 ≤ a2 ∧ a2 < 2147483648) : 0 ≤ a2 ∧ a2 < ((a4 : Nat) : Int) := by omega
theorem z_X11_first_6 (a0 : Int) (a1 : Int) (a2 : Int) (h0 : a0 = a2) (h1 : 0 ≤ a0 ∧ a0 ≤ 11 ∧ 0 ≤ a1) (r0 : -2147483648 ≤ a0 ∧ a0 < 2147483648) : 0 ≤ a0 ∧ a0 ≤ 11 := by omega
theorem z_X11_first_7 (a0 : Int) (a1 : Int) (a2 : Nat) (a3 : Nat) (h0 : 0 ≤ a0 ∧ a0 ≤ 2388 ∧ a0 ≤ ((a3 : Nat) : Int)) (h1 : (0 : Int) ≤ a1) (h2 : 2147483648 - a1 < ((a2 + 1 : Nat) : Int)) (h3 : ¬ (a0 ≤ a1)) (r0 : -2147483648 ≤ a0 ∧ a0 < 2147483648) (r1 : -2147483648 ≤ a1 ∧ a1 < 2147483648) : 0 ≤ a1 ∧ a1 < ((2400 : Nat) : Int) := by omega
theorem z_X11_first_8 (a0 : Int) (a1 : Int) (a2 : Nat) (a3 : Nat) (h0 : 0 ≤ a0 ∧ a0 ≤ 2388 ∧ a0 ≤ ((a3 : Nat) : Int)) (h1 : (0 : Int) ≤ a1) (h2 : 2147483648 - a1 < ((a2 + 1 : Nat) : Int)) (h3 : ¬ (a0 ≤ a1)) (r0 : -2147483648 ≤ a0 ∧ a0 < 2147483648) (r1 : -2147483648 ≤ a1 ∧ a1 < 2147483648) : 0 ≤ a1 ∧ a1 < ((a3 : Nat) : Int) := by omega
theorem z_X11_first_9 (a0 : Int) (a1 : Int) (a2 : Int) (h0 : a0 = a2) (h1 : 0 ≤ a0 ∧ a0 ≤ 11 ∧ 0 ≤ a1) (r0 : -2147483648 ≤ a0 ∧ a0 < 2147483648) : 0 ≤ a0 ∧ a0 ≤ 11 := by omega
theorem z_X11_first_10 (a0 : Int) (a1 : Int) (a2 : Nat) (a3 : Nat) (h0 : 0 ≤ a0 ∧ a0 ≤ 2388 ∧ a0 ≤ ((a3 : Nat) : Int)) (h1 : (0 : Int) ≤ a1) (h2 : 2147483648 - a1 < ((a2 + 1 : Nat) : Int)) (h3 : ¬ (a0 ≤ a1)) (r0 : -2147483648 ≤ a0 ∧ a0 < 2147483648) (r1 : -2147483648 ≤ a1 ∧ a1 < 2147483648) : 0 ≤ a1 ∧ a1 < ((2400 : Nat) : Int) := by omega
theorem z_X11_first_11 (a0 : Int) (a1 : Int) (a2 : Nat) (a3 : Nat) (h0 : 0 ≤ a0 ∧ a0 ≤ 2388 ∧ a0 ≤ ((a3 : Nat) : Int)) (h1 : (0 : Int) ≤ a1) (h2 : 2147483648 - a1 < ((a2 + 1 : Nat) : Int)) (h3 : ¬ (a0 ≤ a1)) (r0 : -2147483648 ≤ a0 ∧ a0 < 2147483648) (r1 : -2147483648 ≤ a1 ∧ a1 < 2147483648) : 0 ≤ a1 ∧ a1 < ((a3 : Nat) : Int) := by omega
theorem z_X11_first_12 (a0 : Int) (a1 : Int) (a2 : Int) (a3 : Int) (a4 : Int) (a5 : Int) (a6 : Int) (a7 : Int) (h0 : a0 = a7) (h1 : 0 ≤ a0 ∧ a0 ≤ 11 ∧ 0 ≤ a2) (h2 : (-1 ≤ a2 ∧ a2 ≤ 5) ∧ (0 ≤ a3 ∧ a3 ≤ 2) ∧ (0 ≤ a4 ∧ a4 ≤ 2) ∧ (-1 ≤ a5 ∧ a5 ≤ 2) ∧ (a2 = 1 ∨ a2 = 3 ∨ a2 = 4 → 0 ≤ a5)) (h3 : a1 = a6) (h4 : -99 ≤ a1 ∧ a1 ≤ 99 ∧ (a2 = 2 ∨ a2 = 4 ∨ a2 = 5 → 0 ≤ a1 ∧ a1 ≤ 29)) (r0 : -2147483648 ≤ a0 ∧ a0 < 2147483648) (r1 : -2147483648 ≤ a1 ∧ a1 < 2147483648) : 0 ≤ a0 ∧ a0 ≤ 11 := by omega
theorem z_X11_first_13 (a0 : Int) (a1 : Int) (a2 : Int) (a3 : Int) (a4 : Int) (a5 : Int) (a6 : Int) (a7 : Int) (h0 : a0 = a7) (h1 : 0 ≤ a0 ∧ a0 ≤ 11 ∧ 0 ≤ a2) (h2 : (-1 ≤ a2 ∧ a2 ≤ 5) ∧ (0 ≤ a3 ∧ a3 ≤ 2) ∧ (0 ≤ a4 ∧ a4 ≤ 2) ∧ (-1 ≤ a5 ∧ a5 ≤ 2) ∧ (a2 = 1 ∨ a2 = 3 ∨ a2 = 4 → 0 ≤ a5)) (h3 : a1 = a6) (h4 : -99 ≤ a1 ∧ a1 ≤ 99 ∧ (a2 = 2 ∨ a2 = 4 ∨ a2 = 5 → 0 ≤ a1 ∧ a1 ≤ 29)) (r0 : -2147483648 ≤ a0 ∧ a0 < 2147483648) (r1 : -2147483648 ≤ a1 ∧ a1 < 2147483648) : 0 ≤ a2 := by omega
theorem z_X11_first_14 (a0 : Int) (a1 : Int) (a2 : Int) (a3 : Int) (a4 : Int) (a5 : Int) (a6 : Int) (a7 : Int) (h0 : a0 = a7) (h1 : 0 ≤ a0 ∧ a0 ≤ 11 ∧ 0 ≤ a2) (h2 : (-1 ≤ a2 ∧ a2 ≤ 5) ∧ (0 ≤ a3 ∧ a3 ≤ 2) ∧ (0 ≤ a4 ∧ a4 ≤ 2) ∧ (-1 ≤ a5 ∧ a5 ≤ 2) ∧ (a2 = 1 ∨ a2 = 3 ∨ a2 = 4 → 0 ≤ a5)) (h3 : a1 = a6) (h4 : -99 ≤ a1 ∧ a1 ≤ 99 ∧ (a2 = 2 ∨ a2 = 4 ∨ a2 = 5 → 0 ≤ a1 ∧ a1 ≤ 29)) (r0 : -2147483648 ≤ a0 ∧ a0 < 2147483648) (r1 : -2147483648 ≤ a1 ∧ a1 < 2147483648) : a2 = 2 ∨ a2 = 5 → 0 ≤ a1 ∧ a1 ≤ 29 := by omega
theorem z_X11_first_15 (a0 : Int) (a1 : Int) (a2 : Int) (a3 : Nat) (a4 : Nat) (h0 : 0 ≤ a0 ∧ a0 ≤ 2388 ∧ a0 ≤ ((a4 : Nat) : Int)) (h1 : (0 : Int) ≤ a1) (h2 : 2147483648 - a1 < ((a3 + 1 : Nat) : Int)) (h3 : ¬ (a0 ≤ a1)) (h4 : a2 = a1 + 1 ∨ a1 + 1 < -2147483648 ∨ 2147483648 ≤ a1 + 1) (r0 : -2147483648 ≤ a0 ∧ a0 < 2147483648) (r1 : -2147483648 ≤ a1 ∧ a1 < 2147483648) (r2 : -2147483648 ≤ a2 ∧ a2 < 2147483648) : (0 : Int) ≤ a2 := by omega
theorem z_X11_first_16 (a0 : Int) (a1 : Int) (a2 : Int) (a3 : Nat) (a4 : Nat) (h0 : 0 ≤ a0 ∧ a0 ≤ 2388 ∧ a0 ≤ ((a4 : Nat) : Int)) (h1 : (0 : Int) ≤ a1) (h2 : 2147483648 - a1 < ((a3 + 1 : Nat) : Int)) (h3 : ¬ (a0 ≤ a1)) (h4 : a2 = a1 + 1 ∨ a1 + 1 < -2147483648 ∨ 2147483648 ≤ a1 + 1) (r0 : -2147483648 ≤ a0 ∧ a0 < 2147483648) (r1 : -2147483648 ≤ a1 ∧ a1 < 2147483648) (r2 : -2147483648 ≤ a2 ∧ a2 < 2147483648) : 2147483648 - a2 < ((a3 : Nat) : Int) := by omega
abbrev rm_X11_first : Room := { frames := 5, cells := 0, slots := 0, locals := 125 }
set_option maxHeartbeats 4000000 in
set_option maxRecDepth 100000 in
theorem c_X11_first (l : Launch) (E : XE) (K : Nat → Nat) (F : Nat → Nat → Nat) (tl z0 z1 z2 z3 z4 z5 z6 z7 z8 z9 z10 z11 z12 z13 z14 z15 z16 z17 z18 z19 z20 : Int32) (ar0 ar1 ar2 ar3 ar4 ar5 ar6 ar7 ar8 ar9 ar10 : Nat → Int32) (a : Nat) (p0 : Int32) (ha : K a = 13) (hR : RV ar1) : Met l yX11_first (xw yX11_first cX11_first 4 (some .int)) rm_X11_first (va_Pc [.ref a, .int p0] (XP E K F (tl, [z0, z1, z2, z3, z4, z5, z6, z7, z8, z9, z10, z11, z12, z13, z14, z15, z16, z17, z18, z19, z20], [ar0, ar1, ar2, ar3, ar4, ar5, ar6, ar7, ar8, ar9, ar10]))) (XQ E (fun v (u : Int32 × Int32 × Int32 × (Nat → Int32) × (Nat → Int32) × (Nat → Int32)) => ∃ r : Int32, v = .int r) (fun u H => TW E K F (tl, [u.1, z1, z2, u.2.1, u.2.2.1, z5, z6, z7, z8, z9, z10, z11, z12, z13, z14, z15, z16, z17, z18, z19, z20], [ar0, ar1, u.2.2.2.1, u.2.2.2.2.1, u.2.2.2.2.2, ar5, ar6, ar7, ar8, ar9, ar10]) [] H)) 0 0 (xA E) := by
  refine x_enter (by decide) (Nat.le_of_ble_eq_true rfl) ?_
  intro p e s m args below meth c Q S hr hlk hnm hQ hP ls hl
  obtain ⟨hz, hK, hT⟩ := hP
  obtain ⟨hx, hb, -, -, -⟩ := id S
  obtain ⟨H, hT, hS, hgo⟩ : ∃ H : Heap, TW E K F (tl, [z0, z1, z2, z3, z4, z5, z6, z7, z8, z9, z10, z11, z12, z13, z14, z15, z16, z17, z18, z19, z20], [ar0, ar1, ar2, ar3, ar4, ar5, ar6, ar7, ar8, ar9, ar10]) [] H ∧ va_S (xA E) s.heap H [] ∧ H = s.heap := ⟨_, hT, va_S.rf, rfl⟩
  rw [← hgo]
  have hl : lv_has ls 4 [(0, .ref a), (1, .int p0)] := hl
  refine lv_aload_n hx hb dX11_first_0 rfl (lv_at hl 0 rfl) ?_
  refine lv_iconst (v := 0) hx hb dX11_first_1 (by decide) ?_
  refine pX11_0 (kq := []) (v := 0) S hK hT hS ha kf_X11_134 (Nat.le_of_ble_eq_true rfl) dX11_first_2 (fun _ h => by cases h) (fun H locs hT hS => ?_)
  have hT : TW E K F (tl, [0, z1, z2, z3, z4, z5, z6, z7, z8, z9, z10, z11, z12, z13, z14, z15, z16, z17, z18, z19, z20], [ar0, ar1, ar2, ar3, ar4, ar5, ar6, ar7, ar8, ar9, ar10]) [] H := hT
  refine lv_iload_n hx hb dX11_first_5 rfl (lv_at hl 1 rfl) ?_
  refine lv_i2l (v := p0.toInt64) hx hb dX11_first_6 rfl ?_
  refine lv_lconst (v := (0 : Int64)) hx hb dX11_first_7 (by decide) ?_
  refine lv_ldc2 (v := 3) hx hb S.2.2.2.1 (S.2.2.2.2 _ (List.mem_cons_of_mem _ kc_X11_387)) dX11_first_8 ?_
  refine x_clp (x_runS (As := [.long p0.toInt64, .long (0 : Int64), .long (3 : Int64)]) (rest := []) S (c_X11_in l E K F tl 0 z1 z2 z3 z4 z5 z6 z7 z8 z9 z10 z11 z12 z13 z14 z15 z16 z17 z18 z19 z20 ar0 ar1 ar2 ar3 ar4 ar5 ar6 ar7 ar8 ar9 ar10 H p0.toInt64 (0 : Int64) (3 : Int64) p0.toInt (0 : Int) (3 : Int) (xl_i2l (rfl : Int32.toInt p0 = p0.toInt)) (by decide) (by decide)) ms_X11_in km_X11_139 rfl rfl ⟨Nat.le_of_ble_eq_true rfl, Nat.le_of_ble_eq_true rfl⟩ hK (fun _ => XPh.blind) (fun U hU hW => XPh.at hK hz hS hT hU hW) rfl hl.1 (Nat.le_of_ble_eq_true rfl) dX11_first_11 ⟨Nat.le_of_ble_eq_true rfl, Nat.le_of_ble_eq_true rfl⟩) hS ?_
  rintro _ _ locs ⟨x1, rfl, b2, t3⟩ hS
  have t3 : (x1.toInt = 1 ∧ (0 : Int) ≤ p0.toInt ∧ p0.toInt ≤ (3 : Int)) ∨ (x1.toInt = 0 ∧ (p0.toInt < (0 : Int) ∨ (3 : Int) < p0.toInt)) := t3
  refine xi_zne (tgt := 20) hx hb (rfl : Int32.toInt x1 = x1.toInt) dX11_first_14 (by decide) (fun c4 => ?_) (fun c4 => ?_)
  · refine lv_aload_n hx hb dX11_first_20 rfl (lv_at hl 0 rfl) ?_
    refine gX11_6 S hK hT ha kf_X11_206 dX11_first_21 (v := z1) rfl ?_
    refine xi_zne (tgt := 29) hx hb (rfl : Int32.toInt z1 = z1.toInt) dX11_first_24 (by decide) (fun c5 => ?_) (fun c5 => ?_)
    · refine lv_aload_n hx hb dX11_first_29 rfl (lv_at hl 0 rfl) ?_
      refine x_cv0 (x_runV (b := a) (As := []) (rest := []) S (c_X11_findQueue l E K F tl 0 z1 z2 z3 z4 z5 z6 z7 z8 z9 z10 z11 z12 z13 z14 z15 z16 z17 z18 z19 z20 ar0 ar1 ar2 ar3 ar4 ar5 ar6 ar7 ar8 ar9 ar10 a ha hR) mv_X11_findQueue km_X11_218 rfl rfl ⟨Nat.le_of_ble_eq_true rfl, Nat.le_of_ble_eq_true rfl⟩ (rc_13 hK hT ha) hK (fun _ => XP.blind) (fun U hU hW => XP.at hK hz hS hT hU hW) rfl hl.1 (Nat.le_of_ble_eq_true rfl) dX11_first_30 ⟨Nat.le_of_ble_eq_true rfl, Nat.le_of_ble_eq_true rfl⟩) hS ?_
      rintro ⟨u6, u7, f8, f9, f10⟩ H locs t11 hT hS
      have hT : TW E K F (tl, [0, z1, z2, u6, u7, z5, z6, z7, z8, z9, z10, z11, z12, z13, z14, z15, z16, z17, z18, z19, z20], [ar0, ar1, f8, f9, f10, ar5, ar6, ar7, ar8, ar9, ar10]) [] H := hT
      have t11 : 0 ≤ u7.toInt ∧ u7.toInt ≤ 2388 ∧ u7.toInt ≤ (((fV ar1 f9 f10) : Nat) : Int) := t11
      refine lv_iconst (v := 0) hx hb dX11_first_33 (by decide) ?_
      refine lv_istore_n (lv' := [(2, .int 0), (0, .ref a), (1, .int p0)]) hx hb dX11_first_34 rfl hl (by decide) rfl (fun ls hl => ?_)
      refine lv_iconst (v := 0) hx hb dX11_first_35 (by decide) ?_
      refine lv_istore_n (lv' := [(3, .int 0), (2, .int 0), (0, .ref a), (1, .int p0)]) hx hb dX11_first_36 rfl hl (by decide) rfl (fun ls hl => ?_)
      have L37 : ∀ (N16 : Nat) (x14 : Int32) (x15 : Int32) (H : Heap) (locs : List Loc) (ls : Array Slot), (0 : Int) ≤ x15.toInt → 2147483648 - x15.toInt < ((N16 : Nat) : Int) → TW E K F (tl, [0, z1, z2, u6, u7, z5, z6, z7, z8, z9, z10, z11, z12, z13, z14, z15, z16, z17, z18, z19, z20], [ar0, ar1, f8, f9, f10, ar5, ar6, ar7, ar8, ar9, ar10]) [] H → va_S (xA E) s.heap H locs → lv_has ls 4 [(0, .ref a), (1, .int p0), (2, .int x14), (3, .int x15)] → W p l e rm_X11_first s m args below meth c H locs 0 0 Q (F0 m 37 ls []) := by
        intro N16
        induction N16 with
        | zero =>
          intro x14 x15 H locs ls hf17 hm18
          exact absurd hm18 (z_X11_first_1 x15.toInt hf17 (xr x15))
        | succ N16 ih19 =>
          intro x14 x15 H locs ls hf17 hm18 hT hS hl
          refine lv_iload_n hx hb dX11_first_37 rfl (lv_at hl 3 rfl) ?_
          refine lv_aload_n hx hb dX11_first_38 rfl (lv_at hl 0 rfl) ?_
          refine gX11_19 S hK hT ha kf_X11_203 dX11_first_39 (v := u7) rfl ?_
          refine xi_cge (tgt := 83) hx hb (rfl : Int32.toInt x15 = x15.toInt) (rfl : Int32.toInt u7 = u7.toInt) dX11_first_42 (by decide) (fun c20 => ?_) (fun c20 => ?_)
          · refine lv_aload_n hx hb dX11_first_83 rfl (lv_at hl 0 rfl) ?_
            refine x_clp (x_runV (b := a) (As := []) (rest := []) S (c_X11_firstFailing l E K F tl 0 z1 z2 u6 u7 z5 z6 z7 z8 z9 z10 z11 z12 z13 z14 z15 z16 z17 z18 z19 z20 ar0 ar1 f8 f9 f10 ar5 ar6 ar7 ar8 ar9 ar10 H a ha hR (z_X11_first_2 u7.toInt x15.toInt N16 (fV ar1 f9 f10) t11 hf17 hm18 c20 (xr u7) (xr x15))) mv_X11_firstFailing km_X11_313 rfl rfl ⟨Nat.le_of_ble_eq_true rfl, Nat.le_of_ble_eq_true rfl⟩ (rc_13 hK hT ha) hK (fun _ => XPh.blind) (fun U hU hW => XPh.at hK hz hS hT hU hW) rfl hl.1 (Nat.le_of_ble_eq_true rfl) dX11_first_84 ⟨Nat.le_of_ble_eq_true rfl, Nat.le_of_ble_eq_true rfl⟩) hS ?_
            rintro _ _ locs ⟨x22, rfl, t21⟩ hS
            have t21 : x22.toInt = -1 ∨ (0 ≤ x22.toInt ∧ x22.toInt < u7.toInt) := t21
            refine lv_istore_n (lv' := [(3, .int x22), (0, .ref a), (1, .int p0), (2, .int x14)]) hx hb dX11_first_87 rfl hl (by decide) rfl (fun ls hl => ?_)
            refine lv_iload_n hx hb dX11_first_88 rfl (lv_at hl 2 rfl) ?_
            refine lv_iconst (v := 3) hx hb dX11_first_89 (by decide) ?_
            refine xi_cne (tgt := 97) hx hb (rfl : Int32.toInt p0 = p0.toInt) ((by decide) : Int32.toInt 3 = (3 : Int)) dX11_first_90 (by decide) (fun c24 => ?_) (fun c24 => ?_)
            · refine lv_iload_n hx hb dX11_first_97 rfl (lv_at hl 0 rfl) ?_
              refine lv_iconst (v := (-1)) hx hb dX11_first_98 (by decide) ?_
              refine xi_cne (tgt := 106) hx hb (rfl : Int32.toInt x22 = x22.toInt) ((by decide) : Int32.toInt (-1) = (-1 : Int)) dX11_first_99 (by decide) (fun c25 => ?_) (fun c25 => ?_)
              · refine lv_iload_n hx hb dX11_first_106 rfl (lv_at hl 2 rfl) ?_
                refine xi_zne (tgt := 119) hx hb (rfl : Int32.toInt p0 = p0.toInt) dX11_first_107 (by decide) (fun c26 => ?_) (fun c26 => ?_)
                · refine lv_iload_n hx hb dX11_first_119 rfl (lv_at hl 2 rfl) ?_
                  refine lv_iconst (v := 1) hx hb dX11_first_120 (by decide) ?_
                  refine xi_cne (tgt := 133) hx hb (rfl : Int32.toInt p0 = p0.toInt) ((by decide) : Int32.toInt 1 = (1 : Int)) dX11_first_121 (by decide) (fun c27 => ?_) (fun c27 => ?_)
                  · refine lv_iload_n hx hb dX11_first_133 rfl (lv_at hl 0 rfl) ?_
                    exact x_ri hx hb hr hlk hQ (Nat.le_of_ble_eq_true rfl) (Nat.le_of_ble_eq_true rfl) hS dX11_first_134 (0, u6, u7, f8, f9, f10) ⟨_, rfl⟩ hT.nil
                  · refine lv_aload_n hx hb dX11_first_124 rfl (lv_at hl 1 rfl) ?_
                    refine gX11_18 S hK hT ha kf_X11_54 dX11_first_125 (fun hk28 => ?_)
                    refine lv_iload_n hx hb dX11_first_128 rfl (lv_at hl 0 rfl) ?_
                    refine tld_0 S hK hT hk28 (at_44 (f := f10) rfl) (by decide) (z_X11_first_3 u7.toInt x15.toInt x22.toInt N16 (fV ar1 f9 f10) t11 hf17 hm18 c20 t21 c25 (xr u7) (xr x15) (xr x22)) dX11_first_129 (fun x29 w30 o31 => ?_)
                    refine lv_goto (tgt := 134) hx hb dX11_first_130 (by decide) ?_
                    exact x_ri hx hb hr hlk hQ (Nat.le_of_ble_eq_true rfl) (Nat.le_of_ble_eq_true rfl) hS dX11_first_134 (0, u6, u7, f8, f9, f10) ⟨_, rfl⟩ hT.nil
                · refine lv_aload_n hx hb dX11_first_110 rfl (lv_at hl 1 rfl) ?_
                  refine gX11_17 S hK hT ha kf_X11_51 dX11_first_111 (fun hk33 => ?_)
                  refine lv_iload_n hx hb dX11_first_114 rfl (lv_at hl 0 rfl) ?_
                  refine tld_0 S hK hT hk33 (at_43 (f := f9) rfl) (by decide) (z_X11_first_4 u7.toInt x15.toInt x22.toInt N16 (fV ar1 f9 f10) t11 hf17 hm18 c20 t21 c25 (xr u7) (xr x15) (xr x22)) dX11_first_115 (fun x34 w35 o36 => ?_)
                  have v38 : 0 ≤ x34.toInt ∧ x34.toInt ≤ 11 ∧ 0 ≤ (aI ar1 (10 * x34.toInt + (0 : Int))) := fV_rule (f4 := f10) w35 (z_X11_first_5 u7.toInt x15.toInt x22.toInt N16 (fV ar1 f9 f10) t11 hf17 hm18 c20 t21 c25 (xr u7) (xr x15) (xr x22))
                  have v39 : (-1 ≤ (aI ar1 (10 * x34.toInt + (0 : Int))) ∧ (aI ar1 (10 * x34.toInt + (0 : Int))) ≤ 5) ∧ (0 ≤ (aI ar1 (10 * x34.toInt + (1 : Int))) ∧ (aI ar1 (10 * x34.toInt + (1 : Int))) ≤ 2) ∧ (0 ≤ (aI ar1 (10 * x34.toInt + (2 : Int))) ∧ (aI ar1 (10 * x34.toInt + (2 : Int))) ≤ 2) ∧ (-1 ≤ (aI ar1 (10 * x34.toInt + (3 : Int))) ∧ (aI ar1 (10 * x34.toInt + (3 : Int))) ≤ 2) ∧ ((aI ar1 (10 * x34.toInt + (0 : Int))) = 1 ∨ (aI ar1 (10 * x34.toInt + (0 : Int))) = 3 ∨ (aI ar1 (10 * x34.toInt + (0 : Int))) = 4 → 0 ≤ (aI ar1 (10 * x34.toInt + (3 : Int)))) := RV.row hR (z_X11_first_6 x34.toInt (aI ar1 (10 * x34.toInt + (0 : Int))) (aI f9 x22.toInt) w35 v38 (xr x34))
                  refine lv_goto (tgt := 134) hx hb dX11_first_116 (by decide) ?_
                  exact x_ri hx hb hr hlk hQ (Nat.le_of_ble_eq_true rfl) (Nat.le_of_ble_eq_true rfl) hS dX11_first_134 (0, u6, u7, f8, f9, f10) ⟨_, rfl⟩ hT.nil
              · refine lv_iconst (v := (-1)) hx hb dX11_first_102 (by decide) ?_
                refine lv_goto (tgt := 134) hx hb dX11_first_103 (by decide) ?_
                exact x_ri hx hb hr hlk hQ (Nat.le_of_ble_eq_true rfl) (Nat.le_of_ble_eq_true rfl) hS dX11_first_134 (0, u6, u7, f8, f9, f10) ⟨_, rfl⟩ hT.nil
            · refine lv_iload_n hx hb dX11_first_93 rfl (lv_at hl 3 rfl) ?_
              refine lv_goto (tgt := 134) hx hb dX11_first_94 (by decide) ?_
              exact x_ri hx hb hr hlk hQ (Nat.le_of_ble_eq_true rfl) (Nat.le_of_ble_eq_true rfl) hS dX11_first_134 (0, u6, u7, f8, f9, f10) ⟨_, rfl⟩ hT.nil
          · refine lv_iload_n hx hb dX11_first_45 rfl (lv_at hl 2 rfl) ?_
            refine lv_aload_n hx hb dX11_first_46 rfl (lv_at hl 0 rfl) ?_
            refine lv_aload_n hx hb dX11_first_47 rfl (lv_at hl 0 rfl) ?_
            refine gX11_17 S hK hT ha kf_X11_51 dX11_first_48 (fun hk40 => ?_)
            refine lv_iload_n hx hb dX11_first_51 rfl (lv_at hl 3 rfl) ?_
            refine tld_0 S hK hT hk40 (at_43 (f := f9) rfl) (by decide) (z_X11_first_7 u7.toInt x15.toInt N16 (fV ar1 f9 f10) t11 hf17 hm18 c20 (xr u7) (xr x15)) dX11_first_52 (fun x41 w42 o43 => ?_)
            have v45 : 0 ≤ x41.toInt ∧ x41.toInt ≤ 11 ∧ 0 ≤ (aI ar1 (10 * x41.toInt + (0 : Int))) := fV_rule (f4 := f10) w42 (z_X11_first_8 u7.toInt x15.toInt N16 (fV ar1 f9 f10) t11 hf17 hm18 c20 (xr u7) (xr x15))
            have v46 : (-1 ≤ (aI ar1 (10 * x41.toInt + (0 : Int))) ∧ (aI ar1 (10 * x41.toInt + (0 : Int))) ≤ 5) ∧ (0 ≤ (aI ar1 (10 * x41.toInt + (1 : Int))) ∧ (aI ar1 (10 * x41.toInt + (1 : Int))) ≤ 2) ∧ (0 ≤ (aI ar1 (10 * x41.toInt + (2 : Int))) ∧ (aI ar1 (10 * x41.toInt + (2 : Int))) ≤ 2) ∧ (-1 ≤ (aI ar1 (10 * x41.toInt + (3 : Int))) ∧ (aI ar1 (10 * x41.toInt + (3 : Int))) ≤ 2) ∧ ((aI ar1 (10 * x41.toInt + (0 : Int))) = 1 ∨ (aI ar1 (10 * x41.toInt + (0 : Int))) = 3 ∨ (aI ar1 (10 * x41.toInt + (0 : Int))) = 4 → 0 ≤ (aI ar1 (10 * x41.toInt + (3 : Int)))) := RV.row hR (z_X11_first_9 x41.toInt (aI ar1 (10 * x41.toInt + (0 : Int))) (aI f9 x15.toInt) w42 v45 (xr x41))
            refine lv_aload_n hx hb dX11_first_53 rfl (lv_at hl 0 rfl) ?_
            refine gX11_18 S hK hT ha kf_X11_54 dX11_first_54 (fun hk47 => ?_)
            refine lv_iload_n hx hb dX11_first_57 rfl (lv_at hl 3 rfl) ?_
            refine tld_0 S hK hT hk47 (at_44 (f := f10) rfl) (by decide) (z_X11_first_10 u7.toInt x15.toInt N16 (fV ar1 f9 f10) t11 hf17 hm18 c20 (xr u7) (xr x15)) dX11_first_58 (fun x48 w49 o50 => ?_)
            have v52 : -99 ≤ x48.toInt ∧ x48.toInt ≤ 99 ∧ ((aI ar1 (10 * x41.toInt + (0 : Int))) = 2 ∨ (aI ar1 (10 * x41.toInt + (0 : Int))) = 4 ∨ (aI ar1 (10 * x41.toInt + (0 : Int))) = 5 → 0 ≤ x48.toInt ∧ x48.toInt ≤ 29) := fV_sub w42 w49 (z_X11_first_11 u7.toInt x15.toInt N16 (fV ar1 f9 f10) t11 hf17 hm18 c20 (xr u7) (xr x15))
            refine lv_aload_n hx hb dX11_first_59 rfl (lv_at hl 0 rfl) ?_
            refine gX11_1 S hK hT ha kf_X11_9 dX11_first_60 (fun hk53 => ?_)
            refine lv_iconst (v := 0) hx hb dX11_first_63 (by decide) ?_
            refine x_clp (x_runV (b := a) (As := [.int x41, .int x48, .ref (F a 1), .int 0]) (rest := [.int x14]) S (c_X11_fails l E K F tl 0 z1 z2 u6 u7 z5 z6 z7 z8 z9 z10 z11 z12 z13 z14 z15 z16 z17 z18 z19 z20 ar0 ar1 f8 f9 f10 ar5 ar6 ar7 ar8 ar9 ar10 H a x41 x48 (F a 1) 0 ha (XO.a hk53 (by decide)) hR (z_X11_first_12 x41.toInt x48.toInt (aI ar1 (10 * x41.toInt + (0 : Int))) (aI ar1 (10 * x41.toInt + (1 : Int))) (aI ar1 (10 * x41.toInt + (2 : Int))) (aI ar1 (10 * x41.toInt + (3 : Int))) (aI f10 x15.toInt) (aI f9 x15.toInt) w42 v45 v46 w49 v52 (xr x41) (xr x48)) (z_X11_first_13 x41.toInt x48.toInt (aI ar1 (10 * x41.toInt + (0 : Int))) (aI ar1 (10 * x41.toInt + (1 : Int))) (aI ar1 (10 * x41.toInt + (2 : Int))) (aI ar1 (10 * x41.toInt + (3 : Int))) (aI f10 x15.toInt) (aI f9 x15.toInt) w42 v45 v46 w49 v52 (xr x41) (xr x48)) (z_X11_first_14 x41.toInt x48.toInt (aI ar1 (10 * x41.toInt + (0 : Int))) (aI ar1 (10 * x41.toInt + (1 : Int))) (aI ar1 (10 * x41.toInt + (2 : Int))) (aI ar1 (10 * x41.toInt + (3 : Int))) (aI f10 x15.toInt) (aI f9 x15.toInt) w42 v45 v46 w49 v52 (xr x41) (xr x48))) mv_X11_fails km_X11_221 rfl rfl ⟨Nat.le_of_ble_eq_true rfl, Nat.le_of_ble_eq_true rfl⟩ (rc_13 hK hT ha) hK (fun _ => XPh.blind) (fun U hU hW => XPh.at hK hz hS hT hU hW) rfl hl.1 (Nat.le_of_ble_eq_true rfl) dX11_first_64 ⟨Nat.le_of_ble_eq_true rfl, Nat.le_of_ble_eq_true rfl⟩) hS ?_
            rintro _ _ locs ⟨x54, rfl, b55⟩ hS
            have J75 : ∀ (x56 : Int32) (H : Heap) (locs : List Loc) (ls : Array Slot), TW E K F (tl, [0, z1, z2, u6, u7, z5, z6, z7, z8, z9, z10, z11, z12, z13, z14, z15, z16, z17, z18, z19, z20], [ar0, ar1, f8, f9, f10, ar5, ar6, ar7, ar8, ar9, ar10]) [] H → va_S (xA E) s.heap H locs → lv_has ls 4 [(0, .ref a), (1, .int p0), (3, .int x15)] → W p l e rm_X11_first s m args below meth c H locs 0 0 Q (F0 m 75 ls [.int x56, .int x14]) := by
              intro x56 H locs ls hT hS hl
              refine xi_iadd hx hb (rfl : Int32.toInt x14 = x14.toInt) (rfl : Int32.toInt x56 = x56.toInt) dX11_first_75 (fun x57 t58 => ?_)
              refine lv_istore_n (lv' := [(2, .int x57), (0, .ref a), (1, .int p0), (3, .int x15)]) hx hb dX11_first_76 rfl hl (by decide) rfl (fun ls hl => ?_)
              refine xi_iinc (n := 1) (lv' := fun z9 => [(3, .int z9), (2, .int x57), (0, .ref a), (1, .int p0)]) (k := 3) hx hb (rfl : Int32.toInt x15 = x15.toInt) (by decide) dX11_first_77 hl rfl (by decide) (fun _ => rfl) (fun x59 ls t60 hl => ?_)
              have hl : lv_has ls 4 [(3, .int x59), (2, .int x57), (0, .ref a), (1, .int p0)] := hl
              refine lv_goto (tgt := 37) hx hb dX11_first_80 (by decide) ?_
              exact ih19 x57 x59 _ _ _ (z_X11_first_15 u7.toInt x15.toInt x59.toInt N16 (fV ar1 f9 f10) t11 hf17 hm18 c20 t60 (xr u7) (xr x15) (xr x59)) (z_X11_first_16 u7.toInt x15.toInt x59.toInt N16 (fV ar1 f9 f10) t11 hf17 hm18 c20 t60 (xr u7) (xr x15) (xr x59)) hT.nil hS (lv_sub hl [2, 3, 1, 0] rfl)
            refine xi_zeq (tgt := 74) hx hb (rfl : Int32.toInt x54 = x54.toInt) dX11_first_67 (by decide) (fun c61 => ?_) (fun c61 => ?_)
            · refine lv_iconst (v := 0) hx hb dX11_first_74 (by decide) ?_
              exact J75 0 _ _ _ hT.nil hS (lv_sub hl [0, 1, 3] rfl)
            · refine lv_iconst (v := 1) hx hb dX11_first_70 (by decide) ?_
              refine lv_goto (tgt := 75) hx hb dX11_first_71 (by decide) ?_
              exact J75 1 _ _ _ hT.nil hS (lv_sub hl [0, 1, 3] rfl)
      exact L37 4294967297 0 0 _ _ _ (by decide) (by decide) hT.nil hS (lv_sub hl [2, 3, 1, 0] rfl)
    · refine lv_iconst (v := (-1)) hx hb dX11_first_27 (by decide) ?_
      exact x_ri hx hb hr hlk hQ (Nat.le_of_ble_eq_true rfl) (Nat.le_of_ble_eq_true rfl) hS dX11_first_28 (0, z3, z4, ar2, ar3, ar4) ⟨_, rfl⟩ hT.nil
  · refine lv_ldc (v := (-2147483648)) hx hb S.2.2.2.1 (S.2.2.2.2 _ (List.mem_cons_of_mem _ kc_X11_57)) dX11_first_17 ?_
    exact x_ri hx hb hr hlk hQ (Nat.le_of_ble_eq_true rfl) (Nat.le_of_ble_eq_true rfl) hS dX11_first_19 (0, z3, z4, ar2, ar3, ar4) ⟨_, rfl⟩ hT.nil

theorem z_X11_all_1 (a0 : Int) (h0 : (0 : Int) ≤ a0) (r0 : -2147483648 ≤ a0 ∧ a0 < 2147483648) : ¬ (2147483648 - a0 < ((0 : Nat) : Int)) := by omega
theorem z_X11_all_2 (a0 : Int) (a1 : Int) (a2 : Nat) (a3 : Nat) (h0 : 0 ≤ a0 ∧ a0 ≤ 12 ∧ a0 ≤ ((a3 : Nat) : Int)) (h1 : (0 : Int) ≤ a1) (h2 : 2147483648 - a1 < ((a2 + 1 : Nat) : Int)) (h3 : ¬ (a0 ≤ a1)) (r0 : -2147483648 ≤ a0 ∧ a0 < 2147483648) (r1 : -2147483648 ≤ a1 ∧ a1 < 2147483648) : 0 ≤ a1 ∧ a1 < ((12 : Nat) : Int) := by omega
theorem z_X11_all_3 (a0 : Int) (a1 : Int) (a2 : Nat) (a3 : Nat) (h0 : 0 ≤ a0 ∧ a0 ≤ 12 ∧ a0 ≤ ((a3 : Nat) : Int)) (h1 : (0 : Int) ≤ a1) (h2 : 2147483648 - a1 < ((a2 + 1 : Nat) : Int)) (h3 : ¬ (a0 ≤ a1)) (r0 : -2147483648 ≤ a0 ∧ a0 < 2147483648) (r1 : -2147483648 ≤ a1 ∧ a1 < 2147483648) : 0 ≤ a1 ∧ a1 < ((a3 : Nat) : Int) := by omega
theorem z_X11_all_4 (a0 : Int) (a1 : Int) (a2 : Int) (h0 : a0 = a2) (h1 : 0 ≤ a0 ∧ a0 ≤ 11 ∧ 0 ≤ a1) (r0 : -2147483648 ≤ a0 ∧ a0 < 2147483648) : 0 ≤ a0 ∧ a0 ≤ 11 := by omega
theorem z_X11_all_5 (a0 : Int) (a1 : Int) (a2 : Int) (a3 : Int) (a4 : Int) (a5 : Int) (h0 : a0 = a5) (h1 : 0 ≤ a0 ∧ a0 ≤ 11 ∧ 0 ≤ a1) (h2 : (-1 ≤ a1 ∧ a1 ≤ 5) ∧ (0 ≤ a2 ∧ a2 ≤ 2) ∧ (0 ≤ a3 ∧ a3 ≤ 2) ∧ (-1 ≤ a4 ∧ a4 ≤ 2) ∧ (a1 = 1 ∨ a1 = 3 ∨ a1 = 4 → 0 ≤ a4)) (r0 : -2147483648 ≤ a0 ∧ a0 < 2147483648) : 0 ≤ a0 ∧ a0 ≤ 11 := by omega
theorem z_X11_all_6 (a0 : Int) (a1 : Int) (h0 : -99 ≤ a0 ∧ a0 ≤ 100 ∧ (a1 = 2 ∨ a1 = 4 ∨ a1 = 5 → 0 ≤ a0 ∧ a0 ≤ 30)) (r0 : -2147483648 ≤ a0 ∧ a0 < 2147483648) : ¬ (2147483648 - a0 < ((0 : Nat) : Int)) := by omega
theorem z_X11_all_7 (a0 : Int) (a1 : Int) (a2 : Nat) (a3 : Nat) (h0 : 0 ≤ a0 ∧ a0 ≤ 12 ∧ a0 ≤ ((a3 : Nat) : Int)) (h1 : (0 : Int) ≤ a1) (h2 : 2147483648 - a1 < ((a2 + 1 : Nat) : Int)) (h3 : ¬ (a0 ≤ a1)) (r0 : -2147483648 ≤ a0 ∧ a0 < 2147483648) (r1 : -2147483648 ≤ a1 ∧ a1 < 2147483648) : 0 ≤ a1 ∧ a1 < ((12 : Nat) : Int) := by omega
theorem z_X11_all_8 (a0 : Int) (a1 : Int) (a2 : Nat) (a3 : Nat) (h0 : 0 ≤ a0 ∧ a0 ≤ 12 ∧ a0 ≤ ((a3 : Nat) : Int)) (h1 : (0 : Int) ≤ a1) (h2 : 2147483648 - a1 < ((a2 + 1 : Nat) : Int)) (h3 : ¬ (a0 ≤ a1)) (r0 : -2147483648 ≤ a0 ∧ a0 < 2147483648) (r1 : -2147483648 ≤ a1 ∧ a1 < 2147483648) : 0 ≤ a1 ∧ a1 < ((a3 : Nat) : Int) := by omega
theorem z_X11_all_9 (a0 : Int) (a1 : Int) (a2 : Int) (a3 : Int) (a4 : Int) (a5 : Int) (a6 : Int) (a7 : Int) (a8 : Int) (h0 : a0 = a8) (h1 : 0 ≤ a0 ∧ a0 ≤ 11 ∧ 0 ≤ a3) (h2 : (-1 ≤ a3 ∧ a3 ≤ 5) ∧ (0 ≤ a4 ∧ a4 ≤ 2) ∧ (0 ≤ a5 ∧ a5 ≤ 2) ∧ (-1 ≤ a6 ∧ a6 ≤ 2) ∧ (a3 = 1 ∨ a3 = 3 ∨ a3 = 4 → 0 ≤ a6)) (h3 : ((a3 = 2 ∨ a3 = 4 ∨ a3 = 5) ∧ a1 = 0) ∨ (a3 ≠ 2 ∧ a3 ≠ 4 ∧ a3 ≠ 5 ∧ a1 = -99)) (h4 : a2 = a8) (h5 : 0 ≤ a2 ∧ a2 ≤ 11 ∧ 0 ≤ a7) (r0 : -2147483648 ≤ a0 ∧ a0 < 2147483648) (r1 : -2147483648 ≤ a1 ∧ a1 < 2147483648) (r2 : -2147483648 ≤ a2 ∧ a2 < 2147483648) : 0 ≤ a2 ∧ a2 ≤ 11 := by omega
theorem z_X11_all_10 (a0 : Int) (a1 : Int) (a2 : Int) (a3 : Int) (a4 : Int) (a5 : Int) (a6 : Int) (a7 : Int) (a8 : Int) (a9 : Int) (a10 : Int) (a11 : Int) (h0 : a0 = a11) (h1 : 0 ≤ a0 ∧ a0 ≤ 11 ∧ 0 ≤ a3) (h2 : (-1 ≤ a3 ∧ a3 ≤ 5) ∧ (0 ≤ a4 ∧ a4 ≤ 2) ∧ (0 ≤ a5 ∧ a5 ≤ 2) ∧ (-1 ≤ a6 ∧ a6 ≤ 2) ∧ (a3 = 1 ∨ a3 = 3 ∨ a3 = 4 → 0 ≤ a6)) (h3 : ((a3 = 2 ∨ a3 = 4 ∨ a3 = 5) ∧ a1 = 0) ∨ (a3 ≠ 2 ∧ a3 ≠ 4 ∧ a3 ≠ 5 ∧ a1 = -99)) (h4 : a2 = a11) (h5 : 0 ≤ a2 ∧ a2 ≤ 11 ∧ 0 ≤ a7) (h6 : (-1 ≤ a7 ∧ a7 ≤ 5) ∧ (0 ≤ a8 ∧ a8 ≤ 2) ∧ (0 ≤ a9 ∧ a9 ≤ 2) ∧ (-1 ≤ a10 ∧ a10 ≤ 2) ∧ (a7 = 1 ∨ a7 = 3 ∨ a7 = 4 → 0 ≤ a10)) (r0 : -2147483648 ≤ a0 ∧ a0 < 2147483648) (r1 : -2147483648 ≤ a1 ∧ a1 < 2147483648) (r2 : -2147483648 ≤ a2 ∧ a2 < 2147483648) : 0 ≤ a2 ∧ a2 ≤ 11 := by omega
theorem z_X11_all_11 (a0 : Int) (a1 : Int) (a2 : Int) (a3 : Nat) (a4 : Nat) (h0 : 0 ≤ a0 ∧ a0 ≤ 12 ∧ a0 ≤ ((a4 : Nat) : Int)) (h1 : (0 : Int) ≤ a1) (h2 : 2147483648 - a1 < ((a3 + 1 : Nat) : Int)) (h3 : ¬ (a0 ≤ a1)) (h4 : a2 = a1 + 1 ∨ a1 + 1 < -2147483648 ∨ 2147483648 ≤ a1 + 1) (r0 : -2147483648 ≤ a0 ∧ a0 < 2147483648) (r1 : -2147483648 ≤ a1 ∧ a1 < 2147483648) (r2 : -2147483648 ≤ a2 ∧ a2 < 2147483648) : (0 : Int) ≤ a2 := by omega
theorem z_X11_all_12 (a0 : Int) (a1 : Int) (a2 : Int) (a3 : Nat) (a4 : Nat) (h0 : 0 ≤ a0 ∧ a0 ≤ 12 ∧ a0 ≤ ((a4 : Nat) : Int)) (h1 : (0 : Int) ≤ a1) (h2 : 2147483648 - a1 < ((a3 + 1 : Nat) : Int)) (h3 : ¬ (a0 ≤ a1)) (h4 : a2 = a1 + 1 ∨ a1 + 1 < -2147483648 ∨ 2147483648 ≤ a1 + 1) (r0 : -2147483648 ≤ a0 ∧ a0 < 2147483648) (r1 : -2147483648 ≤ a1 ∧ a1 < 2147483648) (r2 : -2147483648 ≤ a2 ∧ a2 < 2147483648) : 2147483648 - a2 < ((a3 : Nat) : Int) := by omega
theorem z_X11_all_13 (a0 : Int) (a1 : Int) (a2 : Nat) (a3 : Nat) (h0 : 0 ≤ a0 ∧ a0 ≤ 12 ∧ a0 ≤ ((a3 : Nat) : Int)) (h1 : (0 : Int) ≤ a1) (h2 : 2147483648 - a1 < ((a2 + 1 : Nat) : Int)) (h3 : ¬ (a0 ≤ a1)) (r0 : -2147483648 ≤ a0 ∧ a0 < 2147483648) (r1 : -2147483648 ≤ a1 ∧ a1 < 2147483648) : 0 ≤ a1 ∧ a1 < ((12 : Nat) : Int) := by omega
theorem z_X11_all_14 (a0 : Int) (a1 : Int) (a2 : Nat) (a3 : Nat) (h0 : 0 ≤ a0 ∧ a0 ≤ 12 ∧ a0 ≤ ((a3 : Nat) : Int)) (h1 : (0 : Int) ≤ a1) (h2 : 2147483648 - a1 < ((a2 + 1 : Nat) : Int)) (h3 : ¬ (a0 ≤ a1)) (r0 : -2147483648 ≤ a0 ∧ a0 < 2147483648) (r1 : -2147483648 ≤ a1 ∧ a1 < 2147483648) : 0 ≤ a1 ∧ a1 < ((a3 : Nat) : Int) := by omega
theorem z_X11_all_15 (a0 : Int) (a1 : Int) (a2 : Int) (a3 : Int) (a4 : Int) (a5 : Int) (a6 : Nat) (a7 : Int) (a8 : Int) (a9 : Int) (a10 : Int) (a11 : Int) (a12 : Int) (a13 : Int) (a14 : Int) (a15 : Int) (a16 : Int) (a17 : Int) (h0 : a0 = a17) (h1 : 0 ≤ a0 ∧ a0 ≤ 11 ∧ 0 ≤ a8) (h2 : (-1 ≤ a8 ∧ a8 ≤ 5) ∧ (0 ≤ a9 ∧ a9 ≤ 2) ∧ (0 ≤ a10 ∧ a10 ≤ 2) ∧ (-1 ≤ a11 ∧ a11 ≤ 2) ∧ (a8 = 1 ∨ a8 = 3 ∨ a8 = 4 → 0 ≤ a11)) (h3 : ((a8 = 2 ∨ a8 = 4 ∨ a8 = 5) ∧ a1 = 0) ∨ (a8 ≠ 2 ∧ a8 ≠ 4 ∧ a8 ≠ 5 ∧ a1 = -99)) (h4 : -99 ≤ a2 ∧ a2 ≤ 100 ∧ (a7 = 2 ∨ a7 = 4 ∨ a7 = 5 → 0 ≤ a2 ∧ a2 ≤ 30)) (h5 : 2147483648 - a2 < ((a6 + 1 : Nat) : Int)) (h6 : a3 = a17) (h7 : 0 ≤ a3 ∧ a3 ≤ 11 ∧ 0 ≤ a12) (h8 : (-1 ≤ a12 ∧ a12 ≤ 5) ∧ (0 ≤ a13 ∧ a13 ≤ 2) ∧ (0 ≤ a14 ∧ a14 ≤ 2) ∧ (-1 ≤ a15 ∧ a15 ≤ 2) ∧ (a12 = 1 ∨ a12 = 3 ∨ a12 = 4 → 0 ≤ a15)) (h9 : ((a12 = 2 ∨ a12 = 4 ∨ a12 = 5) ∧ a4 = 29) ∨ (a12 ≠ 2 ∧ a12 ≠ 4 ∧ a12 ≠ 5 ∧ a4 = 99)) (h10 : ¬ (a4 < a2)) (h11 : a5 = a17) (h12 : 0 ≤ a5 ∧ a5 ≤ 11 ∧ 0 ≤ a16) (r0 : -2147483648 ≤ a0 ∧ a0 < 2147483648) (r1 : -2147483648 ≤ a1 ∧ a1 < 2147483648) (r2 : -2147483648 ≤ a2 ∧ a2 < 2147483648) (r3 : -2147483648 ≤ a3 ∧ a3 < 2147483648) (r4 : -2147483648 ≤ a4 ∧ a4 < 2147483648) (r5 : -2147483648 ≤ a5 ∧ a5 < 2147483648) : 0 ≤ a5 ∧ a5 ≤ 11 := by omega
theorem z_X11_all_16 (a0 : Int) (a1 : Int) (a2 : Int) (a3 : Int) (a4 : Int) (a5 : Int) (a6 : Nat) (a7 : Int) (a8 : Int) (a9 : Int) (a10 : Int) (a11 : Int) (a12 : Int) (a13 : Int) (a14 : Int) (a15 : Int) (a16 : Int) (a17 : Int) (a18 : Int) (a19 : Int) (a20 : Int) (h0 : a0 = a20) (h1 : 0 ≤ a0 ∧ a0 ≤ 11 ∧ 0 ≤ a8) (h2 : (-1 ≤ a8 ∧ a8 ≤ 5) ∧ (0 ≤ a9 ∧ a9 ≤ 2) ∧ (0 ≤ a10 ∧ a10 ≤ 2) ∧ (-1 ≤ a11 ∧ a11 ≤ 2) ∧ (a8 = 1 ∨ a8 = 3 ∨ a8 = 4 → 0 ≤ a11)) (h3 : ((a8 = 2 ∨ a8 = 4 ∨ a8 = 5) ∧ a1 = 0) ∨ (a8 ≠ 2 ∧ a8 ≠ 4 ∧ a8 ≠ 5 ∧ a1 = -99)) (h4 : -99 ≤ a2 ∧ a2 ≤ 100 ∧ (a7 = 2 ∨ a7 = 4 ∨ a7 = 5 → 0 ≤ a2 ∧ a2 ≤ 30)) (h5 : 2147483648 - a2 < ((a6 + 1 : Nat) : Int)) (h6 : a3 = a20) (h7 : 0 ≤ a3 ∧ a3 ≤ 11 ∧ 0 ≤ a12) (h8 : (-1 ≤ a12 ∧ a12 ≤ 5) ∧ (0 ≤ a13 ∧ a13 ≤ 2) ∧ (0 ≤ a14 ∧ a14 ≤ 2) ∧ (-1 ≤ a15 ∧ a15 ≤ 2) ∧ (a12 = 1 ∨ a12 = 3 ∨ a12 = 4 → 0 ≤ a15)) (h9 : ((a12 = 2 ∨ a12 = 4 ∨ a12 = 5) ∧ a4 = 29) ∨ (a12 ≠ 2 ∧ a12 ≠ 4 ∧ a12 ≠ 5 ∧ a4 = 99)) (h10 : ¬ (a4 < a2)) (h11 : a5 = a20) (h12 : 0 ≤ a5 ∧ a5 ≤ 11 ∧ 0 ≤ a16) (h13 : (-1 ≤ a16 ∧ a16 ≤ 5) ∧ (0 ≤ a17 ∧ a17 ≤ 2) ∧ (0 ≤ a18 ∧ a18 ≤ 2) ∧ (-1 ≤ a19 ∧ a19 ≤ 2) ∧ (a16 = 1 ∨ a16 = 3 ∨ a16 = 4 → 0 ≤ a19)) (r0 : -2147483648 ≤ a0 ∧ a0 < 2147483648) (r1 : -2147483648 ≤ a1 ∧ a1 < 2147483648) (r2 : -2147483648 ≤ a2 ∧ a2 < 2147483648) (r3 : -2147483648 ≤ a3 ∧ a3 < 2147483648) (r4 : -2147483648 ≤ a4 ∧ a4 < 2147483648) (r5 : -2147483648 ≤ a5 ∧ a5 < 2147483648) : 0 ≤ a5 ∧ a5 ≤ 11 := by omega
theorem z_X11_all_17 (a0 : Int) (a1 : Int) (a2 : Int) (a3 : Int) (a4 : Int) (a5 : Int) (a6 : Nat) (a7 : Int) (a8 : Int) (a9 : Int) (a10 : Int) (a11 : Int) (a12 : Int) (a13 : Int) (a14 : Int) (a15 : Int) (a16 : Int) (a17 : Int) (a18 : Int) (a19 : Int) (a20 : Int) (h0 : a0 = a20) (h1 : 0 ≤ a0 ∧ a0 ≤ 11 ∧ 0 ≤ a8) (h2 : (-1 ≤ a8 ∧ a8 ≤ 5) ∧ (0 ≤ a9 ∧ a9 ≤ 2) ∧ (0 ≤ a10 ∧ a10 ≤ 2) ∧ (-1 ≤ a11 ∧ a11 ≤ 2) ∧ (a8 = 1 ∨ a8 = 3 ∨ a8 = 4 → 0 ≤ a11)) (h3 : ((a8 = 2 ∨ a8 = 4 ∨ a8 = 5) ∧ a1 = 0) ∨ (a8 ≠ 2 ∧ a8 ≠ 4 ∧ a8 ≠ 5 ∧ a1 = -99)) (h4 : -99 ≤ a2 ∧ a2 ≤ 100 ∧ (a7 = 2 ∨ a7 = 4 ∨ a7 = 5 → 0 ≤ a2 ∧ a2 ≤ 30)) (h5 : 2147483648 - a2 < ((a6 + 1 : Nat) : Int)) (h6 : a3 = a20) (h7 : 0 ≤ a3 ∧ a3 ≤ 11 ∧ 0 ≤ a12) (h8 : (-1 ≤ a12 ∧ a12 ≤ 5) ∧ (0 ≤ a13 ∧ a13 ≤ 2) ∧ (0 ≤ a14 ∧ a14 ≤ 2) ∧ (-1 ≤ a15 ∧ a15 ≤ 2) ∧ (a12 = 1 ∨ a12 = 3 ∨ a12 = 4 → 0 ≤ a15)) (h9 : ((a12 = 2 ∨ a12 = 4 ∨ a12 = 5) ∧ a4 = 29) ∨ (a12 ≠ 2 ∧ a12 ≠ 4 ∧ a12 ≠ 5 ∧ a4 = 99)) (h10 : ¬ (a4 < a2)) (h11 : a5 = a20) (h12 : 0 ≤ a5 ∧ a5 ≤ 11 ∧ 0 ≤ a16) (h13 : (-1 ≤ a16 ∧ a16 ≤ 5) ∧ (0 ≤ a17 ∧ a17 ≤ 2) ∧ (0 ≤ a18 ∧ a18 ≤ 2) ∧ (-1 ≤ a19 ∧ a19 ≤ 2) ∧ (a16 = 1 ∨ a16 = 3 ∨ a16 = 4 → 0 ≤ a19)) (r0 : -2147483648 ≤ a0 ∧ a0 < 2147483648) (r1 : -2147483648 ≤ a1 ∧ a1 < 2147483648) (r2 : -2147483648 ≤ a2 ∧ a2 < 2147483648) (r3 : -2147483648 ≤ a3 ∧ a3 < 2147483648) (r4 : -2147483648 ≤ a4 ∧ a4 < 2147483648) (r5 : -2147483648 ≤ a5 ∧ a5 < 2147483648) : 0 ≤ a16 := by omega
theorem z_X11_all_18 (a0 : Int) (a1 : Int) (a2 : Int) (a3 : Int) (a4 : Int) (a5 : Int) (a6 : Nat) (a7 : Int) (a8 : Int) (a9 : Int) (a10 : Int) (a11 : Int) (a12 : Int) (a13 : Int) (a14 : Int) (a15 : Int) (a16 : Int) (a17 : Int) (a18 : Int) (a19 : Int) (a20 : Int) (h0 : a0 = a20) (h1 : 0 ≤ a0 ∧ a0 ≤ 11 ∧ 0 ≤ a8) (h2 : (-1 ≤ a8 ∧ a8 ≤ 5) ∧ (0 ≤ a9 ∧ a9 ≤ 2) ∧ (0 ≤ a10 ∧ a10 ≤ 2) ∧ (-1 ≤ a11 ∧ a11 ≤ 2) ∧ (a8 = 1 ∨ a8 = 3 ∨ a8 = 4 → 0 ≤ a11)) (h3 : ((a8 = 2 ∨ a8 = 4 ∨ a8 = 5) ∧ a1 = 0) ∨ (a8 ≠ 2 ∧ a8 ≠ 4 ∧ a8 ≠ 5 ∧ a1 = -99)) (h4 : -99 ≤ a2 ∧ a2 ≤ 100 ∧ (a7 = 2 ∨ a7 = 4 ∨ a7 = 5 → 0 ≤ a2 ∧ a2 ≤ 30)) (h5 : 2147483648 - a2 < ((a6 + 1 : Nat) : Int)) (h6 : a3 = a20) (h7 : 0 ≤ a3 ∧ a3 ≤ 11 ∧ 0 ≤ a12) (h8 : (-1 ≤ a12 ∧ a12 ≤ 5) ∧ (0 ≤ a13 ∧ a13 ≤ 2) ∧ (0 ≤ a14 ∧ a14 ≤ 2) ∧ (-1 ≤ a15 ∧ a15 ≤ 2) ∧ (a12 = 1 ∨ a12 = 3 ∨ a12 = 4 → 0 ≤ a15)) (h9 : ((a12 = 2 ∨ a12 = 4 ∨ a12 = 5) ∧ a4 = 29) ∨ (a12 ≠ 2 ∧ a12 ≠ 4 ∧ a12 ≠ 5 ∧ a4 = 99)) (h10 : ¬ (a4 < a2)) (h11 : a5 = a20) (h12 : 0 ≤ a5 ∧ a5 ≤ 11 ∧ 0 ≤ a16) (h13 : (-1 ≤ a16 ∧ a16 ≤ 5) ∧ (0 ≤ a17 ∧ a17 ≤ 2) ∧ (0 ≤ a18 ∧ a18 ≤ 2) ∧ (-1 ≤ a19 ∧ a19 ≤ 2) ∧ (a16 = 1 ∨ a16 = 3 ∨ a16 = 4 → 0 ≤ a19)) (r0 : -2147483648 ≤ a0 ∧ a0 < 2147483648) (r1 : -2147483648 ≤ a1 ∧ a1 < 2147483648) (r2 : -2147483648 ≤ a2 ∧ a2 < 2147483648) (r3 : -2147483648 ≤ a3 ∧ a3 < 2147483648) (r4 : -2147483648 ≤ a4 ∧ a4 < 2147483648) (r5 : -2147483648 ≤ a5 ∧ a5 < 2147483648) : a16 = 2 ∨ a16 = 5 → 0 ≤ a2 ∧ a2 ≤ 29 := by omega
theorem z_X11_all_19 (a0 : Int) (a1 : Int) (a2 : Int) (a3 : Int) (a4 : Int) (a5 : Int) (a6 : Int) (a7 : Nat) (a8 : Int) (a9 : Int) (a10 : Int) (a11 : Int) (a12 : Int) (a13 : Int) (a14 : Int) (a15 : Int) (a16 : Int) (a17 : Int) (a18 : Int) (a19 : Int) (a20 : Int) (a21 : Int) (h0 : a0 = a21) (h1 : 0 ≤ a0 ∧ a0 ≤ 11 ∧ 0 ≤ a9) (h2 : (-1 ≤ a9 ∧ a9 ≤ 5) ∧ (0 ≤ a10 ∧ a10 ≤ 2) ∧ (0 ≤ a11 ∧ a11 ≤ 2) ∧ (-1 ≤ a12 ∧ a12 ≤ 2) ∧ (a9 = 1 ∨ a9 = 3 ∨ a9 = 4 → 0 ≤ a12)) (h3 : ((a9 = 2 ∨ a9 = 4 ∨ a9 = 5) ∧ a1 = 0) ∨ (a9 ≠ 2 ∧ a9 ≠ 4 ∧ a9 ≠ 5 ∧ a1 = -99)) (h4 : -99 ≤ a2 ∧ a2 ≤ 100 ∧ (a8 = 2 ∨ a8 = 4 ∨ a8 = 5 → 0 ≤ a2 ∧ a2 ≤ 30)) (h5 : 2147483648 - a2 < ((a7 + 1 : Nat) : Int)) (h6 : a3 = a21) (h7 : 0 ≤ a3 ∧ a3 ≤ 11 ∧ 0 ≤ a13) (h8 : (-1 ≤ a13 ∧ a13 ≤ 5) ∧ (0 ≤ a14 ∧ a14 ≤ 2) ∧ (0 ≤ a15 ∧ a15 ≤ 2) ∧ (-1 ≤ a16 ∧ a16 ≤ 2) ∧ (a13 = 1 ∨ a13 = 3 ∨ a13 = 4 → 0 ≤ a16)) (h9 : ((a13 = 2 ∨ a13 = 4 ∨ a13 = 5) ∧ a4 = 29) ∨ (a13 ≠ 2 ∧ a13 ≠ 4 ∧ a13 ≠ 5 ∧ a4 = 99)) (h10 : ¬ (a4 < a2)) (h11 : a5 = a21) (h12 : 0 ≤ a5 ∧ a5 ≤ 11 ∧ 0 ≤ a17) (h13 : (-1 ≤ a17 ∧ a17 ≤ 5) ∧ (0 ≤ a18 ∧ a18 ≤ 2) ∧ (0 ≤ a19 ∧ a19 ≤ 2) ∧ (-1 ≤ a20 ∧ a20 ≤ 2) ∧ (a17 = 1 ∨ a17 = 3 ∨ a17 = 4 → 0 ≤ a20)) (h14 : a6 = a2 + 1 ∨ a2 + 1 < -2147483648 ∨ 2147483648 ≤ a2 + 1) (r0 : -2147483648 ≤ a0 ∧ a0 < 2147483648) (r1 : -2147483648 ≤ a1 ∧ a1 < 2147483648) (r2 : -2147483648 ≤ a2 ∧ a2 < 2147483648) (r3 : -2147483648 ≤ a3 ∧ a3 < 2147483648) (r4 : -2147483648 ≤ a4 ∧ a4 < 2147483648) (r5 : -2147483648 ≤ a5 ∧ a5 < 2147483648) (r6 : -2147483648 ≤ a6 ∧ a6 < 2147483648) : -99 ≤ a6 ∧ a6 ≤ 100 ∧ (a8 = 2 ∨ a8 = 4 ∨ a8 = 5 → 0 ≤ a6 ∧ a6 ≤ 30) := by omega
theorem z_X11_all_20 (a0 : Int) (a1 : Int) (a2 : Int) (a3 : Int) (a4 : Int) (a5 : Int) (a6 : Int) (a7 : Nat) (a8 : Int) (a9 : Int) (a10 : Int) (a11 : Int) (a12 : Int) (a13 : Int) (a14 : Int) (a15 : Int) (a16 : Int) (a17 : Int) (a18 : Int) (a19 : Int) (a20 : Int) (a21 : Int) (h0 : a0 = a21) (h1 : 0 ≤ a0 ∧ a0 ≤ 11 ∧ 0 ≤ a9) (h2 : (-1 ≤ a9 ∧ a9 ≤ 5) ∧ (0 ≤ a10 ∧ a10 ≤ 2) ∧ (0 ≤ a11 ∧ a11 ≤ 2) ∧ (-1 ≤ a12 ∧ a12 ≤ 2) ∧ (a9 = 1 ∨ a9 = 3 ∨ a9 = 4 → 0 ≤ a12)) (h3 : ((a9 = 2 ∨ a9 = 4 ∨ a9 = 5) ∧ a1 = 0) ∨ (a9 ≠ 2 ∧ a9 ≠ 4 ∧ a9 ≠ 5 ∧ a1 = -99)) (h4 : -99 ≤ a2 ∧ a2 ≤ 100 ∧ (a8 = 2 ∨ a8 = 4 ∨ a8 = 5 → 0 ≤ a2 ∧ a2 ≤ 30)) (h5 : 2147483648 - a2 < ((a7 + 1 : Nat) : Int)) (h6 : a3 = a21) (h7 : 0 ≤ a3 ∧ a3 ≤ 11 ∧ 0 ≤ a13) (h8 : (-1 ≤ a13 ∧ a13 ≤ 5) ∧ (0 ≤ a14 ∧ a14 ≤ 2) ∧ (0 ≤ a15 ∧ a15 ≤ 2) ∧ (-1 ≤ a16 ∧ a16 ≤ 2) ∧ (a13 = 1 ∨ a13 = 3 ∨ a13 = 4 → 0 ≤ a16)) (h9 : ((a13 = 2 ∨ a13 = 4 ∨ a13 = 5) ∧ a4 = 29) ∨ (a13 ≠ 2 ∧ a13 ≠ 4 ∧ a13 ≠ 5 ∧ a4 = 99)) (h10 : ¬ (a4 < a2)) (h11 : a5 = a21) (h12 : 0 ≤ a5 ∧ a5 ≤ 11 ∧ 0 ≤ a17) (h13 : (-1 ≤ a17 ∧ a17 ≤ 5) ∧ (0 ≤ a18 ∧ a18 ≤ 2) ∧ (0 ≤ a19 ∧ a19 ≤ 2) ∧ (-1 ≤ a20 ∧ a20 ≤ 2) ∧ (a17 = 1 ∨ a17 = 3 ∨ a17 = 4 → 0 ≤ a20)) (h14 : a6 = a2 + 1 ∨ a2 + 1 < -2147483648 ∨ 2147483648 ≤ a2 + 1) (r0 : -2147483648 ≤ a0 ∧ a0 < 2147483648) (r1 : -2147483648 ≤ a1 ∧ a1 < 2147483648) (r2 : -2147483648 ≤ a2 ∧ a2 < 2147483648) (r3 : -2147483648 ≤ a3 ∧ a3 < 2147483648) (r4 : -2147483648 ≤ a4 ∧ a4 < 2147483648) (r5 : -2147483648 ≤ a5 ∧ a5 < 2147483648) (r6 : -2147483648 ≤ a6 ∧ a6 < 2147483648) : 2147483648 - a6 < ((a7 : Nat) : Int) := by omega
theorem z_X11_all_21 (a0 : Int) (a1 : Int) (a2 : Nat) (a3 : Nat) (h0 : 0 ≤ a0 ∧ a0 ≤ 12 ∧ a0 ≤ ((a3 : Nat) : Int)) (h1 : (0 : Int) ≤ a1) (h2 : 2147483648 - a1 < ((a2 + 1 : Nat) : Int)) (h3 : ¬ (a0 ≤ a1)) (r0 : -2147483648 ≤ a0 ∧ a0 < 2147483648) (r1 : -2147483648 ≤ a1 ∧ a1 < 2147483648) : 0 ≤ a1 ∧ a1 < ((12 : Nat) : Int) := by omega
theorem z_X11_all_22 (a0 : Int) (a1 : Int) (a2 : Nat) (a3 : Nat) (h0 : 0 ≤ a0 ∧ a0 ≤ 12 ∧ a0 ≤ ((a3 : Nat) : Int)) (h1 : (0 : Int) ≤ a1) (h2 : 2147483648 - a1 < ((a2 + 1 : Nat) : Int)) (h3 : ¬ (a0 ≤ a1)) (r0 : -2147483648 ≤ a0 ∧ a0 < 2147483648) (r1 : -2147483648 ≤ a1 ∧ a1 < 2147483648) : 0 ≤ a1 ∧ a1 < ((a3 : Nat) : Int) := by omega
theorem z_X11_all_23 (a0 : Int) (a1 : Int) (a2 : Int) (a3 : Int) (a4 : Int) (a5 : Int) (a6 : Int) (a7 : Nat) (a8 : Int) (a9 : Int) (a10 : Int) (a11 : Int) (a12 : Int) (a13 : Int) (a14 : Int) (a15 : Int) (a16 : Int) (a17 : Int) (a18 : Int) (a19 : Int) (a20 : Int) (a21 : Int) (a22 : Int) (h0 : a0 = a22) (h1 : 0 ≤ a0 ∧ a0 ≤ 11 ∧ 0 ≤ a9) (h2 : (-1 ≤ a9 ∧ a9 ≤ 5) ∧ (0 ≤ a10 ∧ a10 ≤ 2) ∧ (0 ≤ a11 ∧ a11 ≤ 2) ∧ (-1 ≤ a12 ∧ a12 ≤ 2) ∧ (a9 = 1 ∨ a9 = 3 ∨ a9 = 4 → 0 ≤ a12)) (h3 : ((a9 = 2 ∨ a9 = 4 ∨ a9 = 5) ∧ a1 = 0) ∨ (a9 ≠ 2 ∧ a9 ≠ 4 ∧ a9 ≠ 5 ∧ a1 = -99)) (h4 : -99 ≤ a2 ∧ a2 ≤ 100 ∧ (a8 = 2 ∨ a8 = 4 ∨ a8 = 5 → 0 ≤ a2 ∧ a2 ≤ 30)) (h5 : 2147483648 - a2 < ((a7 + 1 : Nat) : Int)) (h6 : a3 = a22) (h7 : 0 ≤ a3 ∧ a3 ≤ 11 ∧ 0 ≤ a13) (h8 : (-1 ≤ a13 ∧ a13 ≤ 5) ∧ (0 ≤ a14 ∧ a14 ≤ 2) ∧ (0 ≤ a15 ∧ a15 ≤ 2) ∧ (-1 ≤ a16 ∧ a16 ≤ 2) ∧ (a13 = 1 ∨ a13 = 3 ∨ a13 = 4 → 0 ≤ a16)) (h9 : ((a13 = 2 ∨ a13 = 4 ∨ a13 = 5) ∧ a4 = 29) ∨ (a13 ≠ 2 ∧ a13 ≠ 4 ∧ a13 ≠ 5 ∧ a4 = 99)) (h10 : ¬ (a4 < a2)) (h11 : a5 = a22) (h12 : 0 ≤ a5 ∧ a5 ≤ 11 ∧ 0 ≤ a17) (h13 : (-1 ≤ a17 ∧ a17 ≤ 5) ∧ (0 ≤ a18 ∧ a18 ≤ 2) ∧ (0 ≤ a19 ∧ a19 ≤ 2) ∧ (-1 ≤ a20 ∧ a20 ≤ 2) ∧ (a17 = 1 ∨ a17 = 3 ∨ a17 = 4 → 0 ≤ a20)) (h14 : a6 = a22) (h15 : 0 ≤ a6 ∧ a6 ≤ 11 ∧ 0 ≤ a21) (r0 : -2147483648 ≤ a0 ∧ a0 < 2147483648) (r1 : -2147483648 ≤ a1 ∧ a1 < 2147483648) (r2 : -2147483648 ≤ a2 ∧ a2 < 2147483648) (r3 : -2147483648 ≤ a3 ∧ a3 < 2147483648) (r4 : -2147483648 ≤ a4 ∧ a4 < 2147483648) (r5 : -2147483648 ≤ a5 ∧ a5 < 2147483648) (r6 : -2147483648 ≤ a6 ∧ a6 < 2147483648) : 0 ≤ a6 ∧ a6 ≤ 11 := by omega
theorem z_X11_all_24 (a0 : Int) (a1 : Int) (a2 : Int) (a3 : Int) (a4 : Int) (a5 : Int) (a6 : Int) (a7 : Int) (h0 : a0 = a7) (h1 : 0 ≤ a0 ∧ a0 ≤ 11 ∧ 0 ≤ a3) (h2 : (-1 ≤ a3 ∧ a3 ≤ 5) ∧ (0 ≤ a4 ∧ a4 ≤ 2) ∧ (0 ≤ a5 ∧ a5 ≤ 2) ∧ (-1 ≤ a6 ∧ a6 ≤ 2) ∧ (a3 = 1 ∨ a3 = 3 ∨ a3 = 4 → 0 ≤ a6)) (h3 : ((a3 = 2 ∨ a3 = 4 ∨ a3 = 5) ∧ a1 = 0) ∨ (a3 ≠ 2 ∧ a3 ≠ 4 ∧ a3 ≠ 5 ∧ a1 = -99)) (r0 : -2147483648 ≤ a0 ∧ a0 < 2147483648) (r1 : -2147483648 ≤ a1 ∧ a1 < 2147483648) : -99 ≤ a1 ∧ a1 ≤ 100 ∧ (a2 = 2 ∨ a2 = 4 ∨ a2 = 5 → 0 ≤ a1 ∧ a1 ≤ 30) := by omega
theorem z_X11_all_25 (a0 : Int) (a1 : Int) (a2 : Int) (a3 : Int) (a4 : Int) (a5 : Int) (a6 : Int) (h0 : a0 = a6) (h1 : 0 ≤ a0 ∧ a0 ≤ 11 ∧ 0 ≤ a2) (h2 : (-1 ≤ a2 ∧ a2 ≤ 5) ∧ (0 ≤ a3 ∧ a3 ≤ 2) ∧ (0 ≤ a4 ∧ a4 ≤ 2) ∧ (-1 ≤ a5 ∧ a5 ≤ 2) ∧ (a2 = 1 ∨ a2 = 3 ∨ a2 = 4 → 0 ≤ a5)) (h3 : ((a2 = 2 ∨ a2 = 4 ∨ a2 = 5) ∧ a1 = 0) ∨ (a2 ≠ 2 ∧ a2 ≠ 4 ∧ a2 ≠ 5 ∧ a1 = -99)) (r0 : -2147483648 ≤ a0 ∧ a0 < 2147483648) (r1 : -2147483648 ≤ a1 ∧ a1 < 2147483648) : 2147483648 - a1 < ((4294967297 : Nat) : Int) := by omega
abbrev rm_X11_all : Room := { frames := 4, cells := 0, slots := 0, locals := 104 }
set_option maxHeartbeats 4000000 in
set_option maxRecDepth 100000 in
theorem c_X11_all (l : Launch) (E : XE) (K : Nat → Nat) (F : Nat → Nat → Nat) (tl z0 z1 z2 z3 z4 z5 z6 z7 z8 z9 z10 z11 z12 z13 z14 z15 z16 z17 z18 z19 z20 : Int32) (ar0 ar1 ar2 ar3 ar4 ar5 ar6 ar7 ar8 ar9 ar10 : Nat → Int32) (a : Nat) (p0 : Int32) (ha : K a = 13) (hR : RV ar1) : Met l yX11_all (xw yX11_all cX11_all 7 (some .int)) rm_X11_all (va_Pc [.ref a, .int p0] (XP E K F (tl, [z0, z1, z2, z3, z4, z5, z6, z7, z8, z9, z10, z11, z12, z13, z14, z15, z16, z17, z18, z19, z20], [ar0, ar1, ar2, ar3, ar4, ar5, ar6, ar7, ar8, ar9, ar10]))) (XQ E (fun v (u : Int32 × Int32 × (Nat → Int32)) => ∃ r : Int32, v = .int r) (fun u H => TW E K F (tl, [u.1, z1, z2, u.2.1, z4, z5, z6, z7, z8, z9, z10, z11, z12, z13, z14, z15, z16, z17, z18, z19, z20], [ar0, ar1, u.2.2, ar3, ar4, ar5, ar6, ar7, ar8, ar9, ar10]) [] H)) 0 0 (xA E) := by
  refine x_enter (by decide) (Nat.le_of_ble_eq_true rfl) ?_
  intro p e s m args below meth c Q S hr hlk hnm hQ hP ls hl
  obtain ⟨hz, hK, hT⟩ := hP
  obtain ⟨hx, hb, -, -, -⟩ := id S
  obtain ⟨H, hT, hS, hgo⟩ : ∃ H : Heap, TW E K F (tl, [z0, z1, z2, z3, z4, z5, z6, z7, z8, z9, z10, z11, z12, z13, z14, z15, z16, z17, z18, z19, z20], [ar0, ar1, ar2, ar3, ar4, ar5, ar6, ar7, ar8, ar9, ar10]) [] H ∧ va_S (xA E) s.heap H [] ∧ H = s.heap := ⟨_, hT, va_S.rf, rfl⟩
  rw [← hgo]
  have hl : lv_has ls 7 [(0, .ref a), (1, .int p0)] := hl
  refine lv_aload_n hx hb dX11_all_0 rfl (lv_at hl 0 rfl) ?_
  refine lv_iconst (v := 0) hx hb dX11_all_1 (by decide) ?_
  refine pX11_0 (kq := []) (v := 0) S hK hT hS ha kf_X11_134 (Nat.le_of_ble_eq_true rfl) dX11_all_2 (fun _ h => by cases h) (fun H locs hT hS => ?_)
  have hT : TW E K F (tl, [0, z1, z2, z3, z4, z5, z6, z7, z8, z9, z10, z11, z12, z13, z14, z15, z16, z17, z18, z19, z20], [ar0, ar1, ar2, ar3, ar4, ar5, ar6, ar7, ar8, ar9, ar10]) [] H := hT
  refine lv_iload_n hx hb dX11_all_5 rfl (lv_at hl 1 rfl) ?_
  refine lv_i2l (v := p0.toInt64) hx hb dX11_all_6 rfl ?_
  refine lv_lconst (v := (0 : Int64)) hx hb dX11_all_7 (by decide) ?_
  refine lv_ldc2 (v := 2) hx hb S.2.2.2.1 (S.2.2.2.2 _ (List.mem_cons_of_mem _ kc_X11_137)) dX11_all_8 ?_
  refine x_clp (x_runS (As := [.long p0.toInt64, .long (0 : Int64), .long (2 : Int64)]) (rest := []) S (c_X11_in l E K F tl 0 z1 z2 z3 z4 z5 z6 z7 z8 z9 z10 z11 z12 z13 z14 z15 z16 z17 z18 z19 z20 ar0 ar1 ar2 ar3 ar4 ar5 ar6 ar7 ar8 ar9 ar10 H p0.toInt64 (0 : Int64) (2 : Int64) p0.toInt (0 : Int) (2 : Int) (xl_i2l (rfl : Int32.toInt p0 = p0.toInt)) (by decide) (by decide)) ms_X11_in km_X11_139 rfl rfl ⟨Nat.le_of_ble_eq_true rfl, Nat.le_of_ble_eq_true rfl⟩ hK (fun _ => XPh.blind) (fun U hU hW => XPh.at hK hz hS hT hU hW) rfl hl.1 (Nat.le_of_ble_eq_true rfl) dX11_all_11 ⟨Nat.le_of_ble_eq_true rfl, Nat.le_of_ble_eq_true rfl⟩) hS ?_
  rintro _ _ locs ⟨x1, rfl, b2, t3⟩ hS
  have t3 : (x1.toInt = 1 ∧ (0 : Int) ≤ p0.toInt ∧ p0.toInt ≤ (2 : Int)) ∨ (x1.toInt = 0 ∧ (p0.toInt < (0 : Int) ∨ (2 : Int) < p0.toInt)) := t3
  refine xi_zne (tgt := 20) hx hb (rfl : Int32.toInt x1 = x1.toInt) dX11_all_14 (by decide) (fun c4 => ?_) (fun c4 => ?_)
  · refine lv_aload_n hx hb dX11_all_20 rfl (lv_at hl 0 rfl) ?_
    refine x_cv0 (x_runV (b := a) (As := []) (rest := []) S (c_X11_layOrder l E K F tl 0 z1 z2 z3 z4 z5 z6 z7 z8 z9 z10 z11 z12 z13 z14 z15 z16 z17 z18 z19 z20 ar0 ar1 ar2 ar3 ar4 ar5 ar6 ar7 ar8 ar9 ar10 a ha hR) mv_X11_layOrder km_X11_200 rfl rfl ⟨Nat.le_of_ble_eq_true rfl, Nat.le_of_ble_eq_true rfl⟩ (rc_13 hK hT ha) hK (fun _ => XP.blind) (fun U hU hW => XP.at hK hz hS hT hU hW) rfl hl.1 (Nat.le_of_ble_eq_true rfl) dX11_all_21 ⟨Nat.le_of_ble_eq_true rfl, Nat.le_of_ble_eq_true rfl⟩) hS ?_
    rintro ⟨u5, f6⟩ H locs t7 hT hS
    have hT : TW E K F (tl, [0, z1, z2, u5, z4, z5, z6, z7, z8, z9, z10, z11, z12, z13, z14, z15, z16, z17, z18, z19, z20], [ar0, ar1, f6, ar3, ar4, ar5, ar6, ar7, ar8, ar9, ar10]) [] H := hT
    have t7 : 0 ≤ u5.toInt ∧ u5.toInt ≤ 12 ∧ u5.toInt ≤ (((oV ar1 f6) : Nat) : Int) := t7
    refine lv_iconst (v := 0) hx hb dX11_all_24 (by decide) ?_
    refine lv_istore_n (lv' := [(2, .int 0), (0, .ref a), (1, .int p0)]) hx hb dX11_all_25 rfl hl (by decide) rfl (fun ls hl => ?_)
    refine lv_ldc (v := (-2147483648)) hx hb S.2.2.2.1 (S.2.2.2.2 _ (List.mem_cons_of_mem _ kc_X11_57)) dX11_all_26 ?_
    refine lv_istore_n (lv' := [(3, .int (-2147483648)), (2, .int 0), (0, .ref a), (1, .int p0)]) hx hb dX11_all_28 rfl hl (by decide) rfl (fun ls hl => ?_)
    refine lv_ldc (v := (-2147483648)) hx hb S.2.2.2.1 (S.2.2.2.2 _ (List.mem_cons_of_mem _ kc_X11_57)) dX11_all_29 ?_
    refine lv_istore (lv' := [(4, .int (-2147483648)), (3, .int (-2147483648)), (2, .int 0), (0, .ref a), (1, .int p0)]) hx hb dX11_all_31 hl (by decide) rfl (fun ls hl => ?_)
    refine lv_iconst (v := 0) hx hb dX11_all_33 (by decide) ?_
    refine lv_istore (lv' := [(5, .int 0), (4, .int (-2147483648)), (3, .int (-2147483648)), (2, .int 0), (0, .ref a), (1, .int p0)]) hx hb dX11_all_34 hl (by decide) rfl (fun ls hl => ?_)
    have L36 : ∀ (N14 : Nat) (x10 : Int32) (x11 : Int32) (x12 : Int32) (x13 : Int32) (H : Heap) (locs : List Loc) (ls : Array Slot), (0 : Int) ≤ x13.toInt → 2147483648 - x13.toInt < ((N14 : Nat) : Int) → TW E K F (tl, [0, z1, z2, u5, z4, z5, z6, z7, z8, z9, z10, z11, z12, z13, z14, z15, z16, z17, z18, z19, z20], [ar0, ar1, f6, ar3, ar4, ar5, ar6, ar7, ar8, ar9, ar10]) [] H → va_S (xA E) s.heap H locs → lv_has ls 7 [(0, .ref a), (1, .int p0), (2, .int x10), (3, .int x11), (4, .int x12), (5, .int x13)] → W p l e rm_X11_all s m args below meth c H locs 0 0 Q (F0 m 36 ls []) := by
      intro N14
      induction N14 with
      | zero =>
        intro x10 x11 x12 x13 H locs ls hf15 hm16
        exact absurd hm16 (z_X11_all_1 x13.toInt hf15 (xr x13))
      | succ N14 ih17 =>
        intro x10 x11 x12 x13 H locs ls hf15 hm16 hT hS hl
        refine lv_iload hx hb dX11_all_36 (lv_at hl 5 rfl) ?_
        refine lv_aload_n hx hb dX11_all_38 rfl (lv_at hl 0 rfl) ?_
        refine gX11_16 S hK hT ha kf_X11_197 dX11_all_39 (v := u5) rfl ?_
        refine xi_cge (tgt := 139) hx hb (rfl : Int32.toInt x13 = x13.toInt) (rfl : Int32.toInt u5 = u5.toInt) dX11_all_42 (by decide) (fun c18 => ?_) (fun c18 => ?_)
        · refine lv_iload_n hx hb dX11_all_139 rfl (lv_at hl 1 rfl) ?_
          refine xi_zne (tgt := 147) hx hb (rfl : Int32.toInt p0 = p0.toInt) dX11_all_140 (by decide) (fun c19 => ?_) (fun c19 => ?_)
          · refine lv_iload_n hx hb dX11_all_147 rfl (lv_at hl 2 rfl) ?_
            refine xi_zne (tgt := 155) hx hb (rfl : Int32.toInt x10 = x10.toInt) dX11_all_148 (by decide) (fun c20 => ?_) (fun c20 => ?_)
            · refine lv_iload_n hx hb dX11_all_155 rfl (lv_at hl 1 rfl) ?_
              refine lv_iconst (v := 1) hx hb dX11_all_156 (by decide) ?_
              refine xi_cne (tgt := 164) hx hb (rfl : Int32.toInt p0 = p0.toInt) ((by decide) : Int32.toInt 1 = (1 : Int)) dX11_all_157 (by decide) (fun c21 => ?_) (fun c21 => ?_)
              · refine lv_iload hx hb dX11_all_164 (lv_at hl 4 rfl) ?_
                exact x_ri hx hb hr hlk hQ (Nat.le_of_ble_eq_true rfl) (Nat.le_of_ble_eq_true rfl) hS dX11_all_166 (0, u5, f6) ⟨_, rfl⟩ hT.nil
              · refine lv_iload_n hx hb dX11_all_160 rfl (lv_at hl 3 rfl) ?_
                refine lv_goto (tgt := 166) hx hb dX11_all_161 (by decide) ?_
                exact x_ri hx hb hr hlk hQ (Nat.le_of_ble_eq_true rfl) (Nat.le_of_ble_eq_true rfl) hS dX11_all_166 (0, u5, f6) ⟨_, rfl⟩ hT.nil
            · refine lv_iconst (v := (-1)) hx hb dX11_all_151 (by decide) ?_
              refine lv_goto (tgt := 166) hx hb dX11_all_152 (by decide) ?_
              exact x_ri hx hb hr hlk hQ (Nat.le_of_ble_eq_true rfl) (Nat.le_of_ble_eq_true rfl) hS dX11_all_166 (0, u5, f6) ⟨_, rfl⟩ hT.nil
          · refine lv_iload_n hx hb dX11_all_143 rfl (lv_at hl 2 rfl) ?_
            refine lv_goto (tgt := 166) hx hb dX11_all_144 (by decide) ?_
            exact x_ri hx hb hr hlk hQ (Nat.le_of_ble_eq_true rfl) (Nat.le_of_ble_eq_true rfl) hS dX11_all_166 (0, u5, f6) ⟨_, rfl⟩ hT.nil
        · refine lv_aload_n hx hb dX11_all_45 rfl (lv_at hl 0 rfl) ?_
          refine lv_aload_n hx hb dX11_all_46 rfl (lv_at hl 0 rfl) ?_
          refine gX11_15 S hK hT ha kf_X11_48 dX11_all_47 (fun hk22 => ?_)
          refine lv_iload hx hb dX11_all_50 (lv_at hl 5 rfl) ?_
          refine tld_0 S hK hT hk22 (at_42 (f := f6) rfl) (by decide) (z_X11_all_2 u5.toInt x13.toInt N14 (oV ar1 f6) t7 hf15 hm16 c18 (xr u5) (xr x13)) dX11_all_52 (fun x23 w24 o25 => ?_)
          have v27 : 0 ≤ x23.toInt ∧ x23.toInt ≤ 11 ∧ 0 ≤ (aI ar1 (10 * x23.toInt + (0 : Int))) := oV_get w24 (z_X11_all_3 u5.toInt x13.toInt N14 (oV ar1 f6) t7 hf15 hm16 c18 (xr u5) (xr x13))
          have v28 : (-1 ≤ (aI ar1 (10 * x23.toInt + (0 : Int))) ∧ (aI ar1 (10 * x23.toInt + (0 : Int))) ≤ 5) ∧ (0 ≤ (aI ar1 (10 * x23.toInt + (1 : Int))) ∧ (aI ar1 (10 * x23.toInt + (1 : Int))) ≤ 2) ∧ (0 ≤ (aI ar1 (10 * x23.toInt + (2 : Int))) ∧ (aI ar1 (10 * x23.toInt + (2 : Int))) ≤ 2) ∧ (-1 ≤ (aI ar1 (10 * x23.toInt + (3 : Int))) ∧ (aI ar1 (10 * x23.toInt + (3 : Int))) ≤ 2) ∧ ((aI ar1 (10 * x23.toInt + (0 : Int))) = 1 ∨ (aI ar1 (10 * x23.toInt + (0 : Int))) = 3 ∨ (aI ar1 (10 * x23.toInt + (0 : Int))) = 4 → 0 ≤ (aI ar1 (10 * x23.toInt + (3 : Int)))) := RV.row hR (z_X11_all_4 x23.toInt (aI ar1 (10 * x23.toInt + (0 : Int))) (aI f6 x13.toInt) w24 v27 (xr x23))
          refine x_clp (x_runV (b := a) (As := [.int x23]) (rest := []) S (c_X11_firstSubject l E K F tl 0 z1 z2 u5 z4 z5 z6 z7 z8 z9 z10 z11 z12 z13 z14 z15 z16 z17 z18 z19 z20 ar0 ar1 f6 ar3 ar4 ar5 ar6 ar7 ar8 ar9 ar10 H a x23 ha hR (z_X11_all_5 x23.toInt (aI ar1 (10 * x23.toInt + (0 : Int))) (aI ar1 (10 * x23.toInt + (1 : Int))) (aI ar1 (10 * x23.toInt + (2 : Int))) (aI ar1 (10 * x23.toInt + (3 : Int))) (aI f6 x13.toInt) w24 v27 v28 (xr x23))) mv_X11_firstSubject km_X11_179 rfl rfl ⟨Nat.le_of_ble_eq_true rfl, Nat.le_of_ble_eq_true rfl⟩ (rc_13 hK hT ha) hK (fun _ => XPh.blind) (fun U hU hW => XPh.at hK hz hS hT hU hW) rfl hl.1 (Nat.le_of_ble_eq_true rfl) dX11_all_53 ⟨Nat.le_of_ble_eq_true rfl, Nat.le_of_ble_eq_true rfl⟩) hS ?_
          rintro _ _ locs ⟨x30, rfl, t29⟩ hS
          have t29 : (((aI ar1 (10 * x23.toInt + (0 : Int))) = 2 ∨ (aI ar1 (10 * x23.toInt + (0 : Int))) = 4 ∨ (aI ar1 (10 * x23.toInt + (0 : Int))) = 5) ∧ x30.toInt = 0) ∨ ((aI ar1 (10 * x23.toInt + (0 : Int))) ≠ 2 ∧ (aI ar1 (10 * x23.toInt + (0 : Int))) ≠ 4 ∧ (aI ar1 (10 * x23.toInt + (0 : Int))) ≠ 5 ∧ x30.toInt = -99) := t29
          refine lv_istore (lv' := [(6, .int x30), (0, .ref a), (1, .int p0), (2, .int x10), (3, .int x11), (4, .int x12), (5, .int x13)]) hx hb dX11_all_56 hl (by decide) rfl (fun ls hl => ?_)
          have L58 : ∀ (N36 : Nat) (x32 : Int32) (x33 : Int32) (x34 : Int32) (x35 : Int32) (H : Heap) (locs : List Loc) (ls : Array Slot), -99 ≤ x35.toInt ∧ x35.toInt ≤ 100 ∧ ((aI ar1 (10 * aI f6 x13.toInt + (0 : Int))) = 2 ∨ (aI ar1 (10 * aI f6 x13.toInt + (0 : Int))) = 4 ∨ (aI ar1 (10 * aI f6 x13.toInt + (0 : Int))) = 5 → 0 ≤ x35.toInt ∧ x35.toInt ≤ 30) → 2147483648 - x35.toInt < ((N36 : Nat) : Int) → TW E K F (tl, [0, z1, z2, u5, z4, z5, z6, z7, z8, z9, z10, z11, z12, z13, z14, z15, z16, z17, z18, z19, z20], [ar0, ar1, f6, ar3, ar4, ar5, ar6, ar7, ar8, ar9, ar10]) [] H → va_S (xA E) s.heap H locs → lv_has ls 7 [(0, .ref a), (1, .int p0), (2, .int x32), (3, .int x33), (4, .int x34), (5, .int x13), (6, .int x35)] → W p l e rm_X11_all s m args below meth c H locs 0 0 Q (F0 m 58 ls []) := by
            intro N36
            induction N36 with
            | zero =>
              intro x32 x33 x34 x35 H locs ls hf37 hm38
              exact absurd hm38 (z_X11_all_6 x35.toInt (aI ar1 (10 * aI f6 x13.toInt + (0 : Int))) hf37 (xr x35))
            | succ N36 ih39 =>
              intro x32 x33 x34 x35 H locs ls hf37 hm38 hT hS hl
              refine lv_iload hx hb dX11_all_58 (lv_at hl 6 rfl) ?_
              refine lv_aload_n hx hb dX11_all_60 rfl (lv_at hl 0 rfl) ?_
              refine lv_aload_n hx hb dX11_all_61 rfl (lv_at hl 0 rfl) ?_
              refine gX11_15 S hK hT ha kf_X11_48 dX11_all_62 (fun hk40 => ?_)
              refine lv_iload hx hb dX11_all_65 (lv_at hl 5 rfl) ?_
              refine tld_0 S hK hT hk40 (at_42 (f := f6) rfl) (by decide) (z_X11_all_7 u5.toInt x13.toInt N14 (oV ar1 f6) t7 hf15 hm16 c18 (xr u5) (xr x13)) dX11_all_67 (fun x41 w42 o43 => ?_)
              have v45 : 0 ≤ x41.toInt ∧ x41.toInt ≤ 11 ∧ 0 ≤ (aI ar1 (10 * x41.toInt + (0 : Int))) := oV_get w42 (z_X11_all_8 u5.toInt x13.toInt N14 (oV ar1 f6) t7 hf15 hm16 c18 (xr u5) (xr x13))
              have v46 : (-1 ≤ (aI ar1 (10 * x41.toInt + (0 : Int))) ∧ (aI ar1 (10 * x41.toInt + (0 : Int))) ≤ 5) ∧ (0 ≤ (aI ar1 (10 * x41.toInt + (1 : Int))) ∧ (aI ar1 (10 * x41.toInt + (1 : Int))) ≤ 2) ∧ (0 ≤ (aI ar1 (10 * x41.toInt + (2 : Int))) ∧ (aI ar1 (10 * x41.toInt + (2 : Int))) ≤ 2) ∧ (-1 ≤ (aI ar1 (10 * x41.toInt + (3 : Int))) ∧ (aI ar1 (10 * x41.toInt + (3 : Int))) ≤ 2) ∧ ((aI ar1 (10 * x41.toInt + (0 : Int))) = 1 ∨ (aI ar1 (10 * x41.toInt + (0 : Int))) = 3 ∨ (aI ar1 (10 * x41.toInt + (0 : Int))) = 4 → 0 ≤ (aI ar1 (10 * x41.toInt + (3 : Int)))) := RV.row hR (z_X11_all_9 x23.toInt x30.toInt x41.toInt (aI ar1 (10 * x23.toInt + (0 : Int))) (aI ar1 (10 * x23.toInt + (1 : Int))) (aI ar1 (10 * x23.toInt + (2 : Int))) (aI ar1 (10 * x23.toInt + (3 : Int))) (aI ar1 (10 * x41.toInt + (0 : Int))) (aI f6 x13.toInt) w24 v27 v28 t29 w42 v45 (xr x23) (xr x30) (xr x41))
              refine x_clp (x_runV (b := a) (As := [.int x41]) (rest := [.int x35]) S (c_X11_lastSubject l E K F tl 0 z1 z2 u5 z4 z5 z6 z7 z8 z9 z10 z11 z12 z13 z14 z15 z16 z17 z18 z19 z20 ar0 ar1 f6 ar3 ar4 ar5 ar6 ar7 ar8 ar9 ar10 H a x41 ha hR (z_X11_all_10 x23.toInt x30.toInt x41.toInt (aI ar1 (10 * x23.toInt + (0 : Int))) (aI ar1 (10 * x23.toInt + (1 : Int))) (aI ar1 (10 * x23.toInt + (2 : Int))) (aI ar1 (10 * x23.toInt + (3 : Int))) (aI ar1 (10 * x41.toInt + (0 : Int))) (aI ar1 (10 * x41.toInt + (1 : Int))) (aI ar1 (10 * x41.toInt + (2 : Int))) (aI ar1 (10 * x41.toInt + (3 : Int))) (aI f6 x13.toInt) w24 v27 v28 t29 w42 v45 v46 (xr x23) (xr x30) (xr x41))) mv_X11_lastSubject km_X11_183 rfl rfl ⟨Nat.le_of_ble_eq_true rfl, Nat.le_of_ble_eq_true rfl⟩ (rc_13 hK hT ha) hK (fun _ => XPh.blind) (fun U hU hW => XPh.at hK hz hS hT hU hW) rfl hl.1 (Nat.le_of_ble_eq_true rfl) dX11_all_68 ⟨Nat.le_of_ble_eq_true rfl, Nat.le_of_ble_eq_true rfl⟩) hS ?_
              rintro _ _ locs ⟨x48, rfl, t47⟩ hS
              have t47 : (((aI ar1 (10 * x41.toInt + (0 : Int))) = 2 ∨ (aI ar1 (10 * x41.toInt + (0 : Int))) = 4 ∨ (aI ar1 (10 * x41.toInt + (0 : Int))) = 5) ∧ x48.toInt = 29) ∨ ((aI ar1 (10 * x41.toInt + (0 : Int))) ≠ 2 ∧ (aI ar1 (10 * x41.toInt + (0 : Int))) ≠ 4 ∧ (aI ar1 (10 * x41.toInt + (0 : Int))) ≠ 5 ∧ x48.toInt = 99) := t47
              refine xi_cgt (tgt := 133) hx hb (rfl : Int32.toInt x35 = x35.toInt) (rfl : Int32.toInt x48 = x48.toInt) dX11_all_71 (by decide) (fun c50 => ?_) (fun c50 => ?_)
              · refine xi_iinc (n := 1) (lv' := fun z9 => [(5, .int z9), (0, .ref a), (1, .int p0), (2, .int x32), (3, .int x33), (4, .int x34), (6, .int x35)]) (k := 5) hx hb (rfl : Int32.toInt x13 = x13.toInt) (by decide) dX11_all_133 hl rfl (by decide) (fun _ => rfl) (fun x51 ls t52 hl => ?_)
                have hl : lv_has ls 7 [(5, .int x51), (0, .ref a), (1, .int p0), (2, .int x32), (3, .int x33), (4, .int x34), (6, .int x35)] := hl
                refine lv_goto (tgt := 36) hx hb dX11_all_136 (by decide) ?_
                exact ih17 x32 x33 x34 x51 _ _ _ (z_X11_all_11 u5.toInt x13.toInt x51.toInt N14 (oV ar1 f6) t7 hf15 hm16 c18 t52 (xr u5) (xr x13) (xr x51)) (z_X11_all_12 u5.toInt x13.toInt x51.toInt N14 (oV ar1 f6) t7 hf15 hm16 c18 t52 (xr u5) (xr x13) (xr x51)) hT.nil hS (lv_sub hl [1, 2, 3, 4, 5, 0] rfl)
              · refine lv_aload_n hx hb dX11_all_74 rfl (lv_at hl 0 rfl) ?_
                refine lv_aload_n hx hb dX11_all_75 rfl (lv_at hl 0 rfl) ?_
                refine gX11_15 S hK hT ha kf_X11_48 dX11_all_76 (fun hk53 => ?_)
                refine lv_iload hx hb dX11_all_79 (lv_at hl 5 rfl) ?_
                refine tld_0 S hK hT hk53 (at_42 (f := f6) rfl) (by decide) (z_X11_all_13 u5.toInt x13.toInt N14 (oV ar1 f6) t7 hf15 hm16 c18 (xr u5) (xr x13)) dX11_all_81 (fun x54 w55 o56 => ?_)
                have v58 : 0 ≤ x54.toInt ∧ x54.toInt ≤ 11 ∧ 0 ≤ (aI ar1 (10 * x54.toInt + (0 : Int))) := oV_get w55 (z_X11_all_14 u5.toInt x13.toInt N14 (oV ar1 f6) t7 hf15 hm16 c18 (xr u5) (xr x13))
                have v59 : (-1 ≤ (aI ar1 (10 * x54.toInt + (0 : Int))) ∧ (aI ar1 (10 * x54.toInt + (0 : Int))) ≤ 5) ∧ (0 ≤ (aI ar1 (10 * x54.toInt + (1 : Int))) ∧ (aI ar1 (10 * x54.toInt + (1 : Int))) ≤ 2) ∧ (0 ≤ (aI ar1 (10 * x54.toInt + (2 : Int))) ∧ (aI ar1 (10 * x54.toInt + (2 : Int))) ≤ 2) ∧ (-1 ≤ (aI ar1 (10 * x54.toInt + (3 : Int))) ∧ (aI ar1 (10 * x54.toInt + (3 : Int))) ≤ 2) ∧ ((aI ar1 (10 * x54.toInt + (0 : Int))) = 1 ∨ (aI ar1 (10 * x54.toInt + (0 : Int))) = 3 ∨ (aI ar1 (10 * x54.toInt + (0 : Int))) = 4 → 0 ≤ (aI ar1 (10 * x54.toInt + (3 : Int)))) := RV.row hR (z_X11_all_15 x23.toInt x30.toInt x35.toInt x41.toInt x48.toInt x54.toInt N36 (aI ar1 (10 * aI f6 x13.toInt + (0 : Int))) (aI ar1 (10 * x23.toInt + (0 : Int))) (aI ar1 (10 * x23.toInt + (1 : Int))) (aI ar1 (10 * x23.toInt + (2 : Int))) (aI ar1 (10 * x23.toInt + (3 : Int))) (aI ar1 (10 * x41.toInt + (0 : Int))) (aI ar1 (10 * x41.toInt + (1 : Int))) (aI ar1 (10 * x41.toInt + (2 : Int))) (aI ar1 (10 * x41.toInt + (3 : Int))) (aI ar1 (10 * x54.toInt + (0 : Int))) (aI f6 x13.toInt) w24 v27 v28 t29 hf37 hm38 w42 v45 v46 t47 c50 w55 v58 (xr x23) (xr x30) (xr x35) (xr x41) (xr x48) (xr x54))
                refine lv_iload hx hb dX11_all_82 (lv_at hl 6 rfl) ?_
                refine lv_aload_n hx hb dX11_all_84 rfl (lv_at hl 0 rfl) ?_
                refine gX11_1 S hK hT ha kf_X11_9 dX11_all_85 (fun hk60 => ?_)
                refine lv_iconst (v := 0) hx hb dX11_all_88 (by decide) ?_
                refine x_clp (x_runV (b := a) (As := [.int x54, .int x35, .ref (F a 1), .int 0]) (rest := []) S (c_X11_fails l E K F tl 0 z1 z2 u5 z4 z5 z6 z7 z8 z9 z10 z11 z12 z13 z14 z15 z16 z17 z18 z19 z20 ar0 ar1 f6 ar3 ar4 ar5 ar6 ar7 ar8 ar9 ar10 H a x54 x35 (F a 1) 0 ha (XO.a hk60 (by decide)) hR (z_X11_all_16 x23.toInt x30.toInt x35.toInt x41.toInt x48.toInt x54.toInt N36 (aI ar1 (10 * aI f6 x13.toInt + (0 : Int))) (aI ar1 (10 * x23.toInt + (0 : Int))) (aI ar1 (10 * x23.toInt + (1 : Int))) (aI ar1 (10 * x23.toInt + (2 : Int))) (aI ar1 (10 * x23.toInt + (3 : Int))) (aI ar1 (10 * x41.toInt + (0 : Int))) (aI ar1 (10 * x41.toInt + (1 : Int))) (aI ar1 (10 * x41.toInt + (2 : Int))) (aI ar1 (10 * x41.toInt + (3 : Int))) (aI ar1 (10 * x54.toInt + (0 : Int))) (aI ar1 (10 * x54.toInt + (1 : Int))) (aI ar1 (10 * x54.toInt + (2 : Int))) (aI ar1 (10 * x54.toInt + (3 : Int))) (aI f6 x13.toInt) w24 v27 v28 t29 hf37 hm38 w42 v45 v46 t47 c50 w55 v58 v59 (xr x23) (xr x30) (xr x35) (xr x41) (xr x48) (xr x54)) (z_X11_all_17 x23.toInt x30.toInt x35.toInt x41.toInt x48.toInt x54.toInt N36 (aI ar1 (10 * aI f6 x13.toInt + (0 : Int))) (aI ar1 (10 * x23.toInt + (0 : Int))) (aI ar1 (10 * x23.toInt + (1 : Int))) (aI ar1 (10 * x23.toInt + (2 : Int))) (aI ar1 (10 * x23.toInt + (3 : Int))) (aI ar1 (10 * x41.toInt + (0 : Int))) (aI ar1 (10 * x41.toInt + (1 : Int))) (aI ar1 (10 * x41.toInt + (2 : Int))) (aI ar1 (10 * x41.toInt + (3 : Int))) (aI ar1 (10 * x54.toInt + (0 : Int))) (aI ar1 (10 * x54.toInt + (1 : Int))) (aI ar1 (10 * x54.toInt + (2 : Int))) (aI ar1 (10 * x54.toInt + (3 : Int))) (aI f6 x13.toInt) w24 v27 v28 t29 hf37 hm38 w42 v45 v46 t47 c50 w55 v58 v59 (xr x23) (xr x30) (xr x35) (xr x41) (xr x48) (xr x54)) (z_X11_all_18 x23.toInt x30.toInt x35.toInt x41.toInt x48.toInt x54.toInt N36 (aI ar1 (10 * aI f6 x13.toInt + (0 : Int))) (aI ar1 (10 * x23.toInt + (0 : Int))) (aI ar1 (10 * x23.toInt + (1 : Int))) (aI ar1 (10 * x23.toInt + (2 : Int))) (aI ar1 (10 * x23.toInt + (3 : Int))) (aI ar1 (10 * x41.toInt + (0 : Int))) (aI ar1 (10 * x41.toInt + (1 : Int))) (aI ar1 (10 * x41.toInt + (2 : Int))) (aI ar1 (10 * x41.toInt + (3 : Int))) (aI ar1 (10 * x54.toInt + (0 : Int))) (aI ar1 (10 * x54.toInt + (1 : Int))) (aI ar1 (10 * x54.toInt + (2 : Int))) (aI ar1 (10 * x54.toInt + (3 : Int))) (aI f6 x13.toInt) w24 v27 v28 t29 hf37 hm38 w42 v45 v46 t47 c50 w55 v58 v59 (xr x23) (xr x30) (xr x35) (xr x41) (xr x48) (xr x54))) mv_X11_fails km_X11_221 rfl rfl ⟨Nat.le_of_ble_eq_true rfl, Nat.le_of_ble_eq_true rfl⟩ (rc_13 hK hT ha) hK (fun _ => XPh.blind) (fun U hU hW => XPh.at hK hz hS hT hU hW) rfl hl.1 (Nat.le_of_ble_eq_true rfl) dX11_all_89 ⟨Nat.le_of_ble_eq_true rfl, Nat.le_of_ble_eq_true rfl⟩) hS ?_
                rintro _ _ locs ⟨x61, rfl, b62⟩ hS
                have J127 : ∀ (x63 : Int32) (x64 : Int32) (x65 : Int32) (H : Heap) (locs : List Loc) (ls : Array Slot), TW E K F (tl, [0, z1, z2, u5, z4, z5, z6, z7, z8, z9, z10, z11, z12, z13, z14, z15, z16, z17, z18, z19, z20], [ar0, ar1, f6, ar3, ar4, ar5, ar6, ar7, ar8, ar9, ar10]) [] H → va_S (xA E) s.heap H locs → lv_has ls 7 [(0, .ref a), (1, .int p0), (2, .int x63), (3, .int x64), (4, .int x65), (5, .int x13), (6, .int x35)] → W p l e rm_X11_all s m args below meth c H locs 0 0 Q (F0 m 127 ls []) := by
                  intro x63 x64 x65 H locs ls hT hS hl
                  refine xi_iinc (n := 1) (lv' := fun z9 => [(6, .int z9), (0, .ref a), (1, .int p0), (2, .int x63), (3, .int x64), (4, .int x65), (5, .int x13)]) (k := 6) hx hb (rfl : Int32.toInt x35 = x35.toInt) (by decide) dX11_all_127 hl rfl (by decide) (fun _ => rfl) (fun x66 ls t67 hl => ?_)
                  have hl : lv_has ls 7 [(6, .int x66), (0, .ref a), (1, .int p0), (2, .int x63), (3, .int x64), (4, .int x65), (5, .int x13)] := hl
                  refine lv_goto (tgt := 58) hx hb dX11_all_130 (by decide) ?_
                  exact ih39 x63 x64 x65 x66 _ _ _ (z_X11_all_19 x23.toInt x30.toInt x35.toInt x41.toInt x48.toInt x54.toInt x66.toInt N36 (aI ar1 (10 * aI f6 x13.toInt + (0 : Int))) (aI ar1 (10 * x23.toInt + (0 : Int))) (aI ar1 (10 * x23.toInt + (1 : Int))) (aI ar1 (10 * x23.toInt + (2 : Int))) (aI ar1 (10 * x23.toInt + (3 : Int))) (aI ar1 (10 * x41.toInt + (0 : Int))) (aI ar1 (10 * x41.toInt + (1 : Int))) (aI ar1 (10 * x41.toInt + (2 : Int))) (aI ar1 (10 * x41.toInt + (3 : Int))) (aI ar1 (10 * x54.toInt + (0 : Int))) (aI ar1 (10 * x54.toInt + (1 : Int))) (aI ar1 (10 * x54.toInt + (2 : Int))) (aI ar1 (10 * x54.toInt + (3 : Int))) (aI f6 x13.toInt) w24 v27 v28 t29 hf37 hm38 w42 v45 v46 t47 c50 w55 v58 v59 t67 (xr x23) (xr x30) (xr x35) (xr x41) (xr x48) (xr x54) (xr x66)) (z_X11_all_20 x23.toInt x30.toInt x35.toInt x41.toInt x48.toInt x54.toInt x66.toInt N36 (aI ar1 (10 * aI f6 x13.toInt + (0 : Int))) (aI ar1 (10 * x23.toInt + (0 : Int))) (aI ar1 (10 * x23.toInt + (1 : Int))) (aI ar1 (10 * x23.toInt + (2 : Int))) (aI ar1 (10 * x23.toInt + (3 : Int))) (aI ar1 (10 * x41.toInt + (0 : Int))) (aI ar1 (10 * x41.toInt + (1 : Int))) (aI ar1 (10 * x41.toInt + (2 : Int))) (aI ar1 (10 * x41.toInt + (3 : Int))) (aI ar1 (10 * x54.toInt + (0 : Int))) (aI ar1 (10 * x54.toInt + (1 : Int))) (aI ar1 (10 * x54.toInt + (2 : Int))) (aI ar1 (10 * x54.toInt + (3 : Int))) (aI f6 x13.toInt) w24 v27 v28 t29 hf37 hm38 w42 v45 v46 t47 c50 w55 v58 v59 t67 (xr x23) (xr x30) (xr x35) (xr x41) (xr x48) (xr x54) (xr x66)) hT.nil hS (lv_sub hl [1, 2, 3, 4, 5, 6, 0] rfl)
                refine xi_zeq (tgt := 127) hx hb (rfl : Int32.toInt x61 = x61.toInt) dX11_all_92 (by decide) (fun c68 => ?_) (fun c68 => ?_)
                · exact J127 x32 x33 x34 _ _ _ hT.nil hS (lv_sub hl [0, 1, 2, 3, 4, 5, 6] rfl)
                · refine lv_iload_n hx hb dX11_all_95 rfl (lv_at hl 2 rfl) ?_
                  have J110 : ∀ (x69 : Int32) (H : Heap) (locs : List Loc) (ls : Array Slot), TW E K F (tl, [0, z1, z2, u5, z4, z5, z6, z7, z8, z9, z10, z11, z12, z13, z14, z15, z16, z17, z18, z19, z20], [ar0, ar1, f6, ar3, ar4, ar5, ar6, ar7, ar8, ar9, ar10]) [] H → va_S (xA E) s.heap H locs → lv_has ls 7 [(0, .ref a), (1, .int p0), (2, .int x32), (4, .int x34), (5, .int x13), (6, .int x35)] → W p l e rm_X11_all s m args below meth c H locs 0 0 Q (F0 m 110 ls [.int x69]) := by
                    intro x69 H locs ls hT hS hl
                    refine lv_istore_n (lv' := [(3, .int x69), (0, .ref a), (1, .int p0), (2, .int x32), (4, .int x34), (5, .int x13), (6, .int x35)]) hx hb dX11_all_110 rfl hl (by decide) rfl (fun ls hl => ?_)
                    refine lv_iload_n hx hb dX11_all_111 rfl (lv_at hl 3 rfl) ?_
                    have J122 : ∀ (x70 : Int32) (H : Heap) (locs : List Loc) (ls : Array Slot), TW E K F (tl, [0, z1, z2, u5, z4, z5, z6, z7, z8, z9, z10, z11, z12, z13, z14, z15, z16, z17, z18, z19, z20], [ar0, ar1, f6, ar3, ar4, ar5, ar6, ar7, ar8, ar9, ar10]) [] H → va_S (xA E) s.heap H locs → lv_has ls 7 [(0, .ref a), (1, .int p0), (2, .int x32), (3, .int x69), (5, .int x13), (6, .int x35)] → W p l e rm_X11_all s m args below meth c H locs 0 0 Q (F0 m 122 ls [.int x70]) := by
                      intro x70 H locs ls hT hS hl
                      refine lv_istore (lv' := [(4, .int x70), (0, .ref a), (1, .int p0), (2, .int x32), (3, .int x69), (5, .int x13), (6, .int x35)]) hx hb dX11_all_122 hl (by decide) rfl (fun ls hl => ?_)
                      refine xi_iinc (n := 1) (lv' := fun z9 => [(2, .int z9), (4, .int x70), (0, .ref a), (1, .int p0), (3, .int x69), (5, .int x13), (6, .int x35)]) (k := 3) hx hb (rfl : Int32.toInt x32 = x32.toInt) (by decide) dX11_all_124 hl rfl (by decide) (fun _ => rfl) (fun x71 ls t72 hl => ?_)
                      have hl : lv_has ls 7 [(2, .int x71), (4, .int x70), (0, .ref a), (1, .int p0), (3, .int x69), (5, .int x13), (6, .int x35)] := hl
                      exact J127 x71 x69 x70 _ _ _ hT.nil hS (lv_sub hl [2, 3, 0, 4, 1, 5, 6] rfl)
                    refine xi_zne (tgt := 120) hx hb (rfl : Int32.toInt x32 = x32.toInt) dX11_all_112 (by decide) (fun c73 => ?_) (fun c73 => ?_)
                    · refine lv_iload hx hb dX11_all_120 (lv_at hl 4 rfl) ?_
                      exact J122 x34 _ _ _ hT.nil hS (lv_sub hl [1, 2, 3, 0, 5, 6] rfl)
                    · refine lv_iload hx hb dX11_all_115 (lv_at hl 6 rfl) ?_
                      refine lv_goto (tgt := 122) hx hb dX11_all_117 (by decide) ?_
                      exact J122 x35 _ _ _ hT.nil hS (lv_sub hl [1, 2, 3, 0, 5, 6] rfl)
                  refine xi_zne (tgt := 109) hx hb (rfl : Int32.toInt x32 = x32.toInt) dX11_all_96 (by decide) (fun c74 => ?_) (fun c74 => ?_)
                  · refine lv_iload_n hx hb dX11_all_109 rfl (lv_at hl 3 rfl) ?_
                    exact J110 x33 _ _ _ hT.nil hS (lv_sub hl [0, 1, 2, 4, 5, 6] rfl)
                  · refine lv_aload_n hx hb dX11_all_99 rfl (lv_at hl 0 rfl) ?_
                    refine gX11_15 S hK hT ha kf_X11_48 dX11_all_100 (fun hk75 => ?_)
                    refine lv_iload hx hb dX11_all_103 (lv_at hl 5 rfl) ?_
                    refine tld_0 S hK hT hk75 (at_42 (f := f6) rfl) (by decide) (z_X11_all_21 u5.toInt x13.toInt N14 (oV ar1 f6) t7 hf15 hm16 c18 (xr u5) (xr x13)) dX11_all_105 (fun x76 w77 o78 => ?_)
                    have v80 : 0 ≤ x76.toInt ∧ x76.toInt ≤ 11 ∧ 0 ≤ (aI ar1 (10 * x76.toInt + (0 : Int))) := oV_get w77 (z_X11_all_22 u5.toInt x13.toInt N14 (oV ar1 f6) t7 hf15 hm16 c18 (xr u5) (xr x13))
                    have v81 : (-1 ≤ (aI ar1 (10 * x76.toInt + (0 : Int))) ∧ (aI ar1 (10 * x76.toInt + (0 : Int))) ≤ 5) ∧ (0 ≤ (aI ar1 (10 * x76.toInt + (1 : Int))) ∧ (aI ar1 (10 * x76.toInt + (1 : Int))) ≤ 2) ∧ (0 ≤ (aI ar1 (10 * x76.toInt + (2 : Int))) ∧ (aI ar1 (10 * x76.toInt + (2 : Int))) ≤ 2) ∧ (-1 ≤ (aI ar1 (10 * x76.toInt + (3 : Int))) ∧ (aI ar1 (10 * x76.toInt + (3 : Int))) ≤ 2) ∧ ((aI ar1 (10 * x76.toInt + (0 : Int))) = 1 ∨ (aI ar1 (10 * x76.toInt + (0 : Int))) = 3 ∨ (aI ar1 (10 * x76.toInt + (0 : Int))) = 4 → 0 ≤ (aI ar1 (10 * x76.toInt + (3 : Int)))) := RV.row hR (z_X11_all_23 x23.toInt x30.toInt x35.toInt x41.toInt x48.toInt x54.toInt x76.toInt N36 (aI ar1 (10 * aI f6 x13.toInt + (0 : Int))) (aI ar1 (10 * x23.toInt + (0 : Int))) (aI ar1 (10 * x23.toInt + (1 : Int))) (aI ar1 (10 * x23.toInt + (2 : Int))) (aI ar1 (10 * x23.toInt + (3 : Int))) (aI ar1 (10 * x41.toInt + (0 : Int))) (aI ar1 (10 * x41.toInt + (1 : Int))) (aI ar1 (10 * x41.toInt + (2 : Int))) (aI ar1 (10 * x41.toInt + (3 : Int))) (aI ar1 (10 * x54.toInt + (0 : Int))) (aI ar1 (10 * x54.toInt + (1 : Int))) (aI ar1 (10 * x54.toInt + (2 : Int))) (aI ar1 (10 * x54.toInt + (3 : Int))) (aI ar1 (10 * x76.toInt + (0 : Int))) (aI f6 x13.toInt) w24 v27 v28 t29 hf37 hm38 w42 v45 v46 t47 c50 w55 v58 v59 w77 v80 (xr x23) (xr x30) (xr x35) (xr x41) (xr x48) (xr x54) (xr x76))
                    refine lv_goto (tgt := 110) hx hb dX11_all_106 (by decide) ?_
                    exact J110 x76 _ _ _ hT.nil hS (lv_sub hl [0, 1, 2, 4, 5, 6] rfl)
          exact L58 4294967297 x10 x11 x12 x30 _ _ _ (z_X11_all_24 x23.toInt x30.toInt (aI ar1 (10 * aI f6 x13.toInt + (0 : Int))) (aI ar1 (10 * x23.toInt + (0 : Int))) (aI ar1 (10 * x23.toInt + (1 : Int))) (aI ar1 (10 * x23.toInt + (2 : Int))) (aI ar1 (10 * x23.toInt + (3 : Int))) (aI f6 x13.toInt) w24 v27 v28 t29 (xr x23) (xr x30)) (z_X11_all_25 x23.toInt x30.toInt (aI ar1 (10 * x23.toInt + (0 : Int))) (aI ar1 (10 * x23.toInt + (1 : Int))) (aI ar1 (10 * x23.toInt + (2 : Int))) (aI ar1 (10 * x23.toInt + (3 : Int))) (aI f6 x13.toInt) w24 v27 v28 t29 (xr x23) (xr x30)) hT.nil hS (lv_sub hl [1, 2, 3, 4, 5, 6, 0] rfl)
    exact L36 4294967297 0 (-2147483648) (-2147483648) 0 _ _ _ (by decide) (by decide) hT.nil hS (lv_sub hl [4, 5, 3, 2, 1, 0] rfl)
  · refine lv_ldc (v := (-2147483648)) hx hb S.2.2.2.1 (S.2.2.2.2 _ (List.mem_cons_of_mem _ kc_X11_57)) dX11_all_17 ?_
    exact x_ri hx hb hr hlk hQ (Nat.le_of_ble_eq_true rfl) (Nat.le_of_ble_eq_true rfl) hS dX11_all_19 (0, z3, ar2) ⟨_, rfl⟩ hT.nil

abbrev rm_X11_wouldTell : Room := { frames := 7, cells := 0, slots := 0, locals := 166 }
set_option maxHeartbeats 4000000 in
set_option maxRecDepth 100000 in
theorem c_X11_wouldTell (l : Launch) (E : XE) (K : Nat → Nat) (F : Nat → Nat → Nat) (tl z0 z1 z2 z3 z4 z5 z6 z7 z8 z9 z10 z11 z12 z13 z14 z15 z16 z17 z18 z19 z20 : Int32) (ar0 ar1 ar2 ar3 ar4 ar5 ar6 ar7 ar8 ar9 ar10 : Nat → Int32) (a : Nat) (ha : K a = 13) (hR : RV ar1) : Met l yX11_wouldTell (xw yX11_wouldTell cX11_wouldTell 2 (some .int)) rm_X11_wouldTell (va_Pc [.ref a] (XP E K F (tl, [z0, z1, z2, z3, z4, z5, z6, z7, z8, z9, z10, z11, z12, z13, z14, z15, z16, z17, z18, z19, z20], [ar0, ar1, ar2, ar3, ar4, ar5, ar6, ar7, ar8, ar9, ar10]))) (XQ E (fun v (u : Int32 × Int32 × Int32 × Int32 × (Nat → Int32) × (Nat → Int32) × (Nat → Int32) × (Nat → Int32)) => ∃ r : Int32, v = .int r) (fun u H => TW E K F (tl, [z0, z1, z2, u.1, u.2.1, z5, z6, z7, z8, z9, z10, z11, z12, z13, u.2.2.1, u.2.2.2.1, z16, z17, z18, z19, z20], [u.2.2.2.2.1, ar1, u.2.2.2.2.2.1, u.2.2.2.2.2.2.1, u.2.2.2.2.2.2.2, ar5, ar6, ar7, ar8, ar9, ar10]) [] H)) 0 0 (xA E) := by
  refine x_enter (by decide) (Nat.le_of_ble_eq_true rfl) ?_
  intro p e s m args below meth c Q S hr hlk hnm hQ hP ls hl
  obtain ⟨hz, hK, hT⟩ := hP
  obtain ⟨hx, hb, -, -, -⟩ := id S
  obtain ⟨H, hT, hS, hgo⟩ : ∃ H : Heap, TW E K F (tl, [z0, z1, z2, z3, z4, z5, z6, z7, z8, z9, z10, z11, z12, z13, z14, z15, z16, z17, z18, z19, z20], [ar0, ar1, ar2, ar3, ar4, ar5, ar6, ar7, ar8, ar9, ar10]) [] H ∧ va_S (xA E) s.heap H [] ∧ H = s.heap := ⟨_, hT, va_S.rf, rfl⟩
  rw [← hgo]
  have hl : lv_has ls 2 [(0, .ref a)] := hl
  refine lv_aload_n hx hb dX11_wouldTell_0 rfl (lv_at hl 0 rfl) ?_
  refine x_cl0 (x_runV (b := a) (As := []) (rest := []) S (c_X11_look l E K F tl z0 z1 z2 z3 z4 z5 z6 z7 z8 z9 z10 z11 z12 z13 z14 z15 z16 z17 z18 z19 z20 ar0 ar1 ar2 ar3 ar4 ar5 ar6 ar7 ar8 ar9 ar10 a ha hR) mv_X11_look km_X11_328 rfl rfl ⟨Nat.le_of_ble_eq_true rfl, Nat.le_of_ble_eq_true rfl⟩ (rc_13 hK hT ha) hK (fun _ => XP.blind) (fun U hU hW => XP.at hK hz hS hT hU hW) rfl hl.1 (Nat.le_of_ble_eq_true rfl) dX11_wouldTell_1 ⟨Nat.le_of_ble_eq_true rfl, Nat.le_of_ble_eq_true rfl⟩) hS ?_
  rintro _ ⟨u1, u2, u3, u4, f5, f6, f7⟩ H locs ⟨x9, rfl, t8⟩ hT hS
  have hT : TW E K F (tl, [z0, z1, z2, u1, u2, z5, z6, z7, z8, z9, z10, z11, z12, z13, u3, u4, z16, z17, z18, z19, z20], [ar0, ar1, f5, f6, f7, ar5, ar6, ar7, ar8, ar9, ar10]) [] H := hT
  have t8 : 0 ≤ u2.toInt ∧ u2.toInt ≤ 2388 ∧ u2.toInt ≤ (((fV ar1 f6 f7) : Nat) : Int) ∧ u4.toInt = x9.toInt ∧ (x9.toInt = -1 ∨ (0 ≤ x9.toInt ∧ x9.toInt < u2.toInt)) := t8
  refine lv_iconst (v := (-1)) hx hb dX11_wouldTell_4 (by decide) ?_
  have J38 : ∀ (x11 : Int32) (x12 : Int32) (f13 : Nat → Int32) (f14 : Nat → Int32) (f15 : Nat → Int32) (x16 : Int32) (H : Heap) (locs : List Loc) (ls : Array Slot), TW E K F (tl, [z0, z1, z2, x11, x12, z5, z6, z7, z8, z9, z10, z11, z12, z13, u3, u4, z16, z17, z18, z19, z20], [ar0, ar1, f13, f14, f15, ar5, ar6, ar7, ar8, ar9, ar10]) [] H → va_S (xA E) s.heap H locs → lv_has ls 2 [(0, .ref a)] → W p l e rm_X11_wouldTell s m args below meth c H locs 0 0 Q (F0 m 38 ls [.int x16]) := by
    intro x11 x12 f13 f14 f15 x16 H locs ls hT hS hl
    refine lv_istore_n (lv' := [(1, .int x16), (0, .ref a)]) hx hb dX11_wouldTell_38 rfl hl (by decide) rfl (fun ls hl => ?_)
    refine lv_aload_n hx hb dX11_wouldTell_39 rfl (lv_at hl 1 rfl) ?_
    refine gX11_4 S hK hT ha kf_X11_21 dX11_wouldTell_40 (fun hk17 => ?_)
    refine lv_iconst (v := 0) hx hb dX11_wouldTell_43 (by decide) ?_
    refine lv_aload_n hx hb dX11_wouldTell_44 rfl (lv_at hl 1 rfl) ?_
    refine gX11_1 S hK hT ha kf_X11_9 dX11_wouldTell_45 (fun hk18 => ?_)
    refine lv_iconst (v := 0) hx hb dX11_wouldTell_48 (by decide) ?_
    refine x_cv0 (x_runS (As := [.ref (F a 4), .int 0, .ref (F a 1), .int 0]) (rest := []) S (c_X11_copy_r l E K F tl z0 z1 z2 x11 x12 z5 z6 z7 z8 z9 z10 z11 z12 z13 u3 u4 z16 z17 z18 z19 z20 ar0 ar1 f13 f14 f15 ar5 ar6 ar7 ar8 ar9 ar10 (F a 4) 0 (F a 1) 0 (XO.b hk17 (by decide)) hk18 (by decide)) ms_X11_copy km_X11_309 rfl rfl ⟨Nat.le_of_ble_eq_true rfl, Nat.le_of_ble_eq_true rfl⟩ hK (fun _ => XP.blind) (fun U hU hW => XP.at hK hz hS hT hU hW) rfl hl.1 (Nat.le_of_ble_eq_true rfl) dX11_wouldTell_49 ⟨Nat.le_of_ble_eq_true rfl, Nat.le_of_ble_eq_true rfl⟩) hS ?_
    rintro f19 H locs - hT hS
    have hT : TW E K F (tl, [z0, z1, z2, x11, x12, z5, z6, z7, z8, z9, z10, z11, z12, z13, u3, u4, z16, z17, z18, z19, z20], [f19, ar1, f13, f14, f15, ar5, ar6, ar7, ar8, ar9, ar10]) [] H := hT
    refine lv_iload_n hx hb dX11_wouldTell_52 rfl (lv_at hl 0 rfl) ?_
    exact x_ri hx hb hr hlk hQ (Nat.le_of_ble_eq_true rfl) (Nat.le_of_ble_eq_true rfl) hS dX11_wouldTell_53 (x11, x12, u3, u4, f19, f13, f14, f15) ⟨_, rfl⟩ hT.nil
  refine xi_ceq (tgt := 13) hx hb (rfl : Int32.toInt x9 = x9.toInt) ((by decide) : Int32.toInt (-1) = (-1 : Int)) dX11_wouldTell_5 (by decide) (fun c22 => ?_) (fun c22 => ?_)
  · refine lv_aload_n hx hb dX11_wouldTell_13 rfl (lv_at hl 0 rfl) ?_
    refine gX11_6 S hK hT ha kf_X11_206 dX11_wouldTell_14 (v := z1) rfl ?_
    have J34 : ∀ (x23 : Int32) (x24 : Int32) (f25 : Nat → Int32) (f26 : Nat → Int32) (f27 : Nat → Int32) (H : Heap) (locs : List Loc) (ls : Array Slot), TW E K F (tl, [z0, z1, z2, x23, x24, z5, z6, z7, z8, z9, z10, z11, z12, z13, u3, u4, z16, z17, z18, z19, z20], [ar0, ar1, f25, f26, f27, ar5, ar6, ar7, ar8, ar9, ar10]) [] H → va_S (xA E) s.heap H locs → lv_has ls 2 [(0, .ref a)] → W p l e rm_X11_wouldTell s m args below meth c H locs 0 0 Q (F0 m 34 ls []) := by
      intro x23 x24 f25 f26 f27 H locs ls hT hS hl
      refine lv_aload_n hx hb dX11_wouldTell_34 rfl (lv_at hl 0 rfl) ?_
      refine gX11_45 S hK hT ha kf_X11_316 dX11_wouldTell_35 (v := u3) rfl ?_
      exact J38 x23 x24 f25 f26 f27 u3 _ _ _ hT.nil hS (lv_sub hl [0] rfl)
    refine xi_zne (tgt := 34) hx hb (rfl : Int32.toInt z1 = z1.toInt) dX11_wouldTell_17 (by decide) (fun c28 => ?_) (fun c28 => ?_)
    · exact J34 u1 u2 f5 f6 f7 _ _ _ hT.nil hS (lv_sub hl [0] rfl)
    · refine lv_aload_n hx hb dX11_wouldTell_20 rfl (lv_at hl 0 rfl) ?_
      refine lv_iconst (v := 1) hx hb dX11_wouldTell_21 (by decide) ?_
      refine x_cl0 (x_runV (b := a) (As := [.int 1]) (rest := []) S (c_X11_asks l E K F tl z0 z1 z2 u1 u2 z5 z6 z7 z8 z9 z10 z11 z12 z13 u3 u4 z16 z17 z18 z19 z20 ar0 ar1 f5 f6 f7 ar5 ar6 ar7 ar8 ar9 ar10 a 1 ha hR) mv_X11_asks km_X11_319 rfl rfl ⟨Nat.le_of_ble_eq_true rfl, Nat.le_of_ble_eq_true rfl⟩ (rc_13 hK hT ha) hK (fun _ => XP.blind) (fun U hU hW => XP.at hK hz hS hT hU hW) rfl hl.1 (Nat.le_of_ble_eq_true rfl) dX11_wouldTell_22 ⟨Nat.le_of_ble_eq_true rfl, Nat.le_of_ble_eq_true rfl⟩) hS ?_
      rintro _ ⟨u29, u30, f31, f32, f33⟩ H locs ⟨x35, rfl, t34⟩ hT hS
      have hT : TW E K F (tl, [z0, z1, z2, u29, u30, z5, z6, z7, z8, z9, z10, z11, z12, z13, u3, u4, z16, z17, z18, z19, z20], [ar0, ar1, f31, f32, f33, ar5, ar6, ar7, ar8, ar9, ar10]) [] H := hT
      have t34 : 0 ≤ u30.toInt ∧ u30.toInt ≤ 2388 ∧ u30.toInt ≤ (((fV ar1 f32 f33) : Nat) : Int) ∧ (x35.toInt = -1 ∨ (0 ≤ x35.toInt ∧ x35.toInt < u30.toInt)) := t34
      refine lv_iconst (v := (-1)) hx hb dX11_wouldTell_25 (by decide) ?_
      refine xi_ceq (tgt := 34) hx hb (rfl : Int32.toInt x35 = x35.toInt) ((by decide) : Int32.toInt (-1) = (-1 : Int)) dX11_wouldTell_26 (by decide) (fun c37 => ?_) (fun c37 => ?_)
      · exact J34 u29 u30 f31 f32 f33 _ _ _ hT.nil hS (lv_sub hl [0] rfl)
      · refine lv_bipush (v := (-5)) hx hb dX11_wouldTell_29 (by decide) ?_
        refine lv_goto (tgt := 38) hx hb dX11_wouldTell_31 (by decide) ?_
        exact J38 u29 u30 f31 f32 f33 (-5) _ _ _ hT.nil hS (lv_sub hl [0] rfl)
  · refine lv_bipush (v := (-5)) hx hb dX11_wouldTell_8 (by decide) ?_
    refine lv_goto (tgt := 38) hx hb dX11_wouldTell_10 (by decide) ?_
    exact J38 u1 u2 f5 f6 f7 (-5) _ _ _ hT.nil hS (lv_sub hl [0] rfl)

theorem z_X11_wouldSet_1 (a0 : Int) (a1 : Int) (a2 : Int) (a3 : Int) (a4 : Int) (a5 : Int) (a6 : Int) (h0 : a5 = 0 → 0 ≤ a0 ∧ a0 ≤ 2 ∧ 0 ≤ a1 ∧ a1 ≤ 29 ∧ 0 ≤ a2 ∧ a2 ≤ 2) (h1 : a5 = 0) (h2 : 0 ≤ a0 ∧ a0 ≤ 2 ∧ 0 ≤ a1 ∧ a1 ≤ 29 → a6 = 4 * (30 * a0 + a1)) (h3 : a3 = a6 + (1 : Int) ∨ a6 + (1 : Int) < -2147483648 ∨ 2147483648 ≤ a6 + (1 : Int)) (h4 : a4 = a3 + a2 ∨ a3 + a2 < -2147483648 ∨ 2147483648 ≤ a3 + a2) (r0 : -2147483648 ≤ a0 ∧ a0 < 2147483648) (r1 : -2147483648 ≤ a1 ∧ a1 < 2147483648) (r2 : -2147483648 ≤ a2 ∧ a2 < 2147483648) (r3 : -2147483648 ≤ a3 ∧ a3 < 2147483648) (r4 : -2147483648 ≤ a4 ∧ a4 < 2147483648) (r5 : -2147483648 ≤ a5 ∧ a5 < 2147483648) (r6 : -2147483648 ≤ a6 ∧ a6 < 2147483648) : 0 ≤ a4 ∧ a4 < ((360 : Nat) : Int) := by omega
abbrev rm_X11_wouldSet : Room := { frames := 8, cells := 0, slots := 0, locals := 187 }
set_option maxHeartbeats 4000000 in
set_option maxRecDepth 100000 in
theorem c_X11_wouldSet (l : Launch) (E : XE) (K : Nat → Nat) (F : Nat → Nat → Nat) (tl z0 z1 z2 z3 z4 z5 z6 z7 z8 z9 z10 z11 z12 z13 z14 z15 z16 z17 z18 z19 z20 : Int32) (ar0 ar1 ar2 ar3 ar4 ar5 ar6 ar7 ar8 ar9 ar10 : Nat → Int32) (a : Nat) (p0 : Int32) (p1 : Int32) (p2 : Int32) (p3 : Int32) (ha : K a = 13) (hR : RV ar1) : Met l yX11_wouldSet (xw yX11_wouldSet cX11_wouldSet 6 (some .int)) rm_X11_wouldSet (va_Pc [.ref a, .int p0, .int p1, .int p2, .int p3] (XP E K F (tl, [z0, z1, z2, z3, z4, z5, z6, z7, z8, z9, z10, z11, z12, z13, z14, z15, z16, z17, z18, z19, z20], [ar0, ar1, ar2, ar3, ar4, ar5, ar6, ar7, ar8, ar9, ar10]))) (XQ E (fun v (u : Int32 × Int32 × Int32 × Int32 × Int32 × (Nat → Int32) × (Nat → Int32) × (Nat → Int32) × (Nat → Int32)) => ∃ r : Int32, v = .int r) (fun u H => TW E K F (tl, [u.1, z1, z2, u.2.1, u.2.2.1, z5, z6, z7, z8, z9, z10, z11, z12, z13, u.2.2.2.1, u.2.2.2.2.1, z16, z17, z18, z19, z20], [u.2.2.2.2.2.1, ar1, u.2.2.2.2.2.2.1, u.2.2.2.2.2.2.2.1, u.2.2.2.2.2.2.2.2, ar5, ar6, ar7, ar8, ar9, ar10]) [] H)) 0 0 (xA E) := by
  refine x_enter (by decide) (Nat.le_of_ble_eq_true rfl) ?_
  intro p e s m args below meth c Q S hr hlk hnm hQ hP ls hl
  obtain ⟨hz, hK, hT⟩ := hP
  obtain ⟨hx, hb, -, -, -⟩ := id S
  obtain ⟨H, hT, hS, hgo⟩ : ∃ H : Heap, TW E K F (tl, [z0, z1, z2, z3, z4, z5, z6, z7, z8, z9, z10, z11, z12, z13, z14, z15, z16, z17, z18, z19, z20], [ar0, ar1, ar2, ar3, ar4, ar5, ar6, ar7, ar8, ar9, ar10]) [] H ∧ va_S (xA E) s.heap H [] ∧ H = s.heap := ⟨_, hT, va_S.rf, rfl⟩
  rw [← hgo]
  have hl : lv_has ls 6 [(0, .ref a), (1, .int p0), (2, .int p1), (3, .int p2), (4, .int p3)] := hl
  refine lv_aload_n hx hb dX11_wouldSet_0 rfl (lv_at hl 0 rfl) ?_
  refine lv_iconst (v := 0) hx hb dX11_wouldSet_1 (by decide) ?_
  refine pX11_0 (kq := []) (v := 0) S hK hT hS ha kf_X11_134 (Nat.le_of_ble_eq_true rfl) dX11_wouldSet_2 (fun _ h => by cases h) (fun H locs hT hS => ?_)
  have hT : TW E K F (tl, [0, z1, z2, z3, z4, z5, z6, z7, z8, z9, z10, z11, z12, z13, z14, z15, z16, z17, z18, z19, z20], [ar0, ar1, ar2, ar3, ar4, ar5, ar6, ar7, ar8, ar9, ar10]) [] H := hT
  refine lv_aload_n hx hb dX11_wouldSet_5 rfl (lv_at hl 0 rfl) ?_
  refine lv_iload_n hx hb dX11_wouldSet_6 rfl (lv_at hl 1 rfl) ?_
  refine lv_iload_n hx hb dX11_wouldSet_7 rfl (lv_at hl 2 rfl) ?_
  refine lv_iload_n hx hb dX11_wouldSet_8 rfl (lv_at hl 3 rfl) ?_
  refine lv_iload hx hb dX11_wouldSet_9 (lv_at hl 4 rfl) ?_
  refine x_clp (x_runV (b := a) (As := [.int p0, .int p1, .int p2, .int p3]) (rest := []) S (c_X11_whyNotSet l E K F tl 0 z1 z2 z3 z4 z5 z6 z7 z8 z9 z10 z11 z12 z13 z14 z15 z16 z17 z18 z19 z20 ar0 ar1 ar2 ar3 ar4 ar5 ar6 ar7 ar8 ar9 ar10 H a p0 p1 p2 p3 ha) mv_X11_whyNotSet km_X11_359 rfl rfl ⟨Nat.le_of_ble_eq_true rfl, Nat.le_of_ble_eq_true rfl⟩ (rc_13 hK hT ha) hK (fun _ => XPh.blind) (fun U hU hW => XPh.at hK hz hS hT hU hW) rfl hl.1 (Nat.le_of_ble_eq_true rfl) dX11_wouldSet_11 ⟨Nat.le_of_ble_eq_true rfl, Nat.le_of_ble_eq_true rfl⟩) hS ?_
  rintro _ _ locs ⟨x2, rfl, t1⟩ hS
  have t1 : x2.toInt = 0 → 0 ≤ p0.toInt ∧ p0.toInt ≤ 2 ∧ 0 ≤ p1.toInt ∧ p1.toInt ≤ 29 ∧ 0 ≤ p2.toInt ∧ p2.toInt ≤ 2 := t1
  refine lv_istore (lv' := [(5, .int x2), (0, .ref a), (1, .int p0), (2, .int p1), (3, .int p2), (4, .int p3)]) hx hb dX11_wouldSet_14 hl (by decide) rfl (fun ls hl => ?_)
  refine lv_iload hx hb dX11_wouldSet_16 (lv_at hl 0 rfl) ?_
  refine xi_zeq (tgt := 24) hx hb (rfl : Int32.toInt x2 = x2.toInt) dX11_wouldSet_18 (by decide) (fun c4 => ?_) (fun c4 => ?_)
  · refine lv_aload_n hx hb dX11_wouldSet_24 rfl (lv_at hl 1 rfl) ?_
    refine x_cv0 (x_runV (b := a) (As := []) (rest := []) S (c_X11_start l E K F tl 0 z1 z2 z3 z4 z5 z6 z7 z8 z9 z10 z11 z12 z13 z14 z15 z16 z17 z18 z19 z20 ar0 ar1 ar2 ar3 ar4 ar5 ar6 ar7 ar8 ar9 ar10 a ha hR) mv_X11_start km_X11_350 rfl rfl ⟨Nat.le_of_ble_eq_true rfl, Nat.le_of_ble_eq_true rfl⟩ (rc_13 hK hT ha) hK (fun _ => XP.blind) (fun U hU hW => XP.at hK hz hS hT hU hW) rfl hl.1 (Nat.le_of_ble_eq_true rfl) dX11_wouldSet_25 ⟨Nat.le_of_ble_eq_true rfl, Nat.le_of_ble_eq_true rfl⟩) hS ?_
    rintro _ H locs - hT hS
    refine lv_aload_n hx hb dX11_wouldSet_28 rfl (lv_at hl 1 rfl) ?_
    refine gX11_1 S hK hT ha kf_X11_9 dX11_wouldSet_29 (fun hk7 => ?_)
    refine lv_iload_n hx hb dX11_wouldSet_32 rfl (lv_at hl 2 rfl) ?_
    refine lv_iload_n hx hb dX11_wouldSet_33 rfl (lv_at hl 3 rfl) ?_
    refine x_clp (x_runS (As := [.int p0, .int p1]) (rest := [.ref (F a 1)]) S (c_X11_at l E K F tl 0 z1 z2 z3 z4 z5 z6 z7 z8 z9 z10 z11 z12 z13 z14 z15 z16 z17 z18 z19 z20 ar0 ar1 ar2 ar3 ar4 ar5 ar6 ar7 ar8 ar9 ar10 H p0 p1) ms_X11_at km_X11_156 rfl rfl ⟨Nat.le_of_ble_eq_true rfl, Nat.le_of_ble_eq_true rfl⟩ hK (fun _ => XPh.blind) (fun U hU hW => XPh.at hK hz hS hT hU hW) rfl hl.1 (Nat.le_of_ble_eq_true rfl) dX11_wouldSet_34 ⟨Nat.le_of_ble_eq_true rfl, Nat.le_of_ble_eq_true rfl⟩) hS ?_
    rintro _ _ locs ⟨x9, rfl, t8⟩ hS
    have t8 : 0 ≤ p0.toInt ∧ p0.toInt ≤ 2 ∧ 0 ≤ p1.toInt ∧ p1.toInt ≤ 29 → x9.toInt = 4 * (30 * p0.toInt + p1.toInt) := t8
    refine lv_iconst (v := 1) hx hb dX11_wouldSet_37 (by decide) ?_
    refine xi_iadd hx hb (rfl : Int32.toInt x9 = x9.toInt) ((by decide) : Int32.toInt 1 = (1 : Int)) dX11_wouldSet_38 (fun x11 t12 => ?_)
    refine lv_iload_n hx hb dX11_wouldSet_39 rfl (lv_at hl 4 rfl) ?_
    refine xi_iadd hx hb (rfl : Int32.toInt x11 = x11.toInt) (rfl : Int32.toInt p2 = p2.toInt) dX11_wouldSet_40 (fun x13 t14 => ?_)
    refine lv_iload hx hb dX11_wouldSet_41 (lv_at hl 5 rfl) ?_
    refine tst_0 S hK hT hS hk7 (at_30 (f := ar0) rfl) (fun _ => bt_30 (Nat.le_of_ble_eq_true rfl)) (by decide) (by decide) xti_30 (z_X11_wouldSet_1 p0.toInt p1.toInt p2.toInt x11.toInt x13.toInt x2.toInt x9.toInt t1 c4 t8 t12 t14 (xr p0) (xr p1) (xr p2) (xr x11) (xr x13) (xr x2) (xr x9)) dX11_wouldSet_43 (fun f15 H locs hu16 hT hS => ?_)
    have hT : TW E K F (tl, [0, z1, z2, z3, z4, z5, z6, z7, z8, z9, z10, z11, z12, z13, z14, z15, z16, z17, z18, z19, z20], [f15, ar1, ar2, ar3, ar4, ar5, ar6, ar7, ar8, ar9, ar10]) [] H := hT
    refine lv_aload_n hx hb dX11_wouldSet_44 rfl (lv_at hl 1 rfl) ?_
    refine x_cl0 (x_runV (b := a) (As := []) (rest := []) S (c_X11_wouldTell l E K F tl 0 z1 z2 z3 z4 z5 z6 z7 z8 z9 z10 z11 z12 z13 z14 z15 z16 z17 z18 z19 z20 f15 ar1 ar2 ar3 ar4 ar5 ar6 ar7 ar8 ar9 ar10 a ha hR) mv_X11_wouldTell km_X11_389 rfl rfl ⟨Nat.le_of_ble_eq_true rfl, Nat.le_of_ble_eq_true rfl⟩ (rc_13 hK hT ha) hK (fun _ => XP.blind) (fun U hU hW => XP.at hK hz hS hT hU hW) rfl hl.1 (Nat.le_of_ble_eq_true rfl) dX11_wouldSet_45 ⟨Nat.le_of_ble_eq_true rfl, Nat.le_of_ble_eq_true rfl⟩) hS ?_
    rintro _ ⟨u17, u18, u19, u20, f21, f22, f23, f24⟩ H locs ⟨x25, rfl⟩ hT hS
    have hT : TW E K F (tl, [0, z1, z2, u17, u18, z5, z6, z7, z8, z9, z10, z11, z12, z13, u19, u20, z16, z17, z18, z19, z20], [f21, ar1, f22, f23, f24, ar5, ar6, ar7, ar8, ar9, ar10]) [] H := hT
    exact x_ri hx hb hr hlk hQ (Nat.le_of_ble_eq_true rfl) (Nat.le_of_ble_eq_true rfl) hS dX11_wouldSet_48 (0, u17, u18, u19, u20, f21, f22, f23, f24) ⟨_, rfl⟩ hT.nil
  · refine lv_iload hx hb dX11_wouldSet_21 (lv_at hl 0 rfl) ?_
    exact x_ri hx hb hr hlk hQ (Nat.le_of_ble_eq_true rfl) (Nat.le_of_ble_eq_true rfl) hS dX11_wouldSet_23 (0, z3, z4, z14, z15, ar0, ar2, ar3, ar4) ⟨_, rfl⟩ hT.nil

theorem z_X11_leansOn_1 (a0 : Int) (h0 : (0 : Int) ≤ a0) (r0 : -2147483648 ≤ a0 ∧ a0 < 2147483648) : ¬ (2147483648 - a0 < ((0 : Nat) : Int)) := by omega
theorem z_X11_leansOn_2 (a0 : Int) (h0 : a0 = 0 ∨ a0 = 1) (r0 : -2147483648 ≤ a0 ∧ a0 < 2147483648) : a0 = 0 ∨ a0 = 1 := by omega
theorem z_X11_leansOn_3 (a0 : Int) (a1 : Int) (a2 : Nat) (h0 : (0 : Int) ≤ a1) (h1 : 2147483648 - a1 < ((a2 + 1 : Nat) : Int)) (h2 : ¬ ((12 : Int) ≤ a1)) (h3 : a0 = a1 + 1 ∨ a1 + 1 < -2147483648 ∨ 2147483648 ≤ a1 + 1) (r0 : -2147483648 ≤ a0 ∧ a0 < 2147483648) (r1 : -2147483648 ≤ a1 ∧ a1 < 2147483648) : (0 : Int) ≤ a0 := by omega
theorem z_X11_leansOn_4 (a0 : Int) (a1 : Int) (a2 : Nat) (h0 : (0 : Int) ≤ a1) (h1 : 2147483648 - a1 < ((a2 + 1 : Nat) : Int)) (h2 : ¬ ((12 : Int) ≤ a1)) (h3 : a0 = a1 + 1 ∨ a1 + 1 < -2147483648 ∨ 2147483648 ≤ a1 + 1) (r0 : -2147483648 ≤ a0 ∧ a0 < 2147483648) (r1 : -2147483648 ≤ a1 ∧ a1 < 2147483648) : 2147483648 - a0 < ((a2 : Nat) : Int) := by omega
theorem z_X11_leansOn_5 (a0 : Int) (a1 : Int) (a2 : Nat) (a3 : Int) (h0 : (0 : Int) ≤ a0) (h1 : 2147483648 - a0 < ((a2 + 1 : Nat) : Int)) (h2 : ¬ ((12 : Int) ≤ a0)) (h3 : a1 = 0 ∨ (a1 = 1 ∧ 0 ≤ a0 ∧ a0 ≤ 11 ∧ 0 ≤ a3)) (h4 : a1 = 0 ∨ a1 = 1) (h5 : ¬ (a1 = 0)) (r0 : -2147483648 ≤ a0 ∧ a0 < 2147483648) (r1 : -2147483648 ≤ a1 ∧ a1 < 2147483648) : 0 ≤ a0 ∧ a0 ≤ 11 := by omega
theorem z_X11_leansOn_6 (a0 : Int) (a1 : Int) (a2 : Int) (a3 : Nat) (a4 : Int) (h0 : (0 : Int) ≤ a0) (h1 : 2147483648 - a0 < ((a3 + 1 : Nat) : Int)) (h2 : ¬ ((12 : Int) ≤ a0)) (h3 : a1 = 0 ∨ (a1 = 1 ∧ 0 ≤ a0 ∧ a0 ≤ 11 ∧ 0 ≤ a4)) (h4 : a1 = 0 ∨ a1 = 1) (h5 : ¬ (a1 = 0)) (h6 : a2 = a4) (r0 : -2147483648 ≤ a0 ∧ a0 < 2147483648) (r1 : -2147483648 ≤ a1 ∧ a1 < 2147483648) (r2 : -2147483648 ≤ a2 ∧ a2 < 2147483648) : 0 ≤ a0 ∧ a0 ≤ 11 := by omega
theorem z_X11_leansOn_7 (a0 : Int) (a1 : Int) (a2 : Int) (a3 : Nat) (a4 : Int) (a5 : Int) (a6 : Int) (a7 : Int) (h0 : (0 : Int) ≤ a0) (h1 : 2147483648 - a0 < ((a3 + 1 : Nat) : Int)) (h2 : ¬ ((12 : Int) ≤ a0)) (h3 : a1 = 0 ∨ (a1 = 1 ∧ 0 ≤ a0 ∧ a0 ≤ 11 ∧ 0 ≤ a4)) (h4 : a1 = 0 ∨ a1 = 1) (h5 : ¬ (a1 = 0)) (h6 : a2 = a4) (h7 : (-1 ≤ a4 ∧ a4 ≤ 5) ∧ (0 ≤ a5 ∧ a5 ≤ 2) ∧ (0 ≤ a6 ∧ a6 ≤ 2) ∧ (-1 ≤ a7 ∧ a7 ≤ 2) ∧ (a4 = 1 ∨ a4 = 3 ∨ a4 = 4 → 0 ≤ a7)) (h8 : ¬ (a2 ≠ (1 : Int))) (r0 : -2147483648 ≤ a0 ∧ a0 < 2147483648) (r1 : -2147483648 ≤ a1 ∧ a1 < 2147483648) (r2 : -2147483648 ≤ a2 ∧ a2 < 2147483648) : 0 ≤ a0 ∧ a0 ≤ 11 := by omega
theorem z_X11_leansOn_8 (a0 : Int) (a1 : Int) (a2 : Int) (a3 : Int) (a4 : Int) (a5 : Nat) (a6 : Int) (a7 : Int) (a8 : Int) (a9 : Int) (h0 : (0 : Int) ≤ a1) (h1 : 2147483648 - a1 < ((a5 + 1 : Nat) : Int)) (h2 : ¬ ((12 : Int) ≤ a1)) (h3 : a2 = 0 ∨ (a2 = 1 ∧ 0 ≤ a1 ∧ a1 ≤ 11 ∧ 0 ≤ a6)) (h4 : a2 = 0 ∨ a2 = 1) (h5 : ¬ (a2 = 0)) (h6 : a3 = a6) (h7 : (-1 ≤ a6 ∧ a6 ≤ 5) ∧ (0 ≤ a7 ∧ a7 ≤ 2) ∧ (0 ≤ a8 ∧ a8 ≤ 2) ∧ (-1 ≤ a9 ∧ a9 ≤ 2) ∧ (a6 = 1 ∨ a6 = 3 ∨ a6 = 4 → 0 ≤ a9)) (h8 : ¬ (a3 ≠ (1 : Int))) (h9 : a4 = a9) (h10 : ¬ (a4 ≠ a0)) (r0 : -2147483648 ≤ a0 ∧ a0 < 2147483648) (r1 : -2147483648 ≤ a1 ∧ a1 < 2147483648) (r2 : -2147483648 ≤ a2 ∧ a2 < 2147483648) (r3 : -2147483648 ≤ a3 ∧ a3 < 2147483648) (r4 : -2147483648 ≤ a4 ∧ a4 < 2147483648) : 0 ≤ a1 ∧ a1 ≤ 11 := by omega
theorem z_X11_leansOn_9 (a0 : Int) (a1 : Int) (a2 : Int) (a3 : Int) (a4 : Int) (a5 : Int) (a6 : Int) (a7 : Int) (a8 : Int) (a9 : Int) (a10 : Nat) (a11 : Int) (a12 : Int) (a13 : Int) (a14 : Int) (h0 : 0 ≤ a0 ∧ a0 ≤ 2) (h1 : 0 ≤ a1 ∧ a1 ≤ 29) (h2 : (0 : Int) ≤ a3) (h3 : 2147483648 - a3 < ((a10 + 1 : Nat) : Int)) (h4 : ¬ ((12 : Int) ≤ a3)) (h5 : a4 = 0 ∨ (a4 = 1 ∧ 0 ≤ a3 ∧ a3 ≤ 11 ∧ 0 ≤ a11)) (h6 : a4 = 0 ∨ a4 = 1) (h7 : ¬ (a4 = 0)) (h8 : a5 = a11) (h9 : (-1 ≤ a11 ∧ a11 ≤ 5) ∧ (0 ≤ a12 ∧ a12 ≤ 2) ∧ (0 ≤ a13 ∧ a13 ≤ 2) ∧ (-1 ≤ a14 ∧ a14 ≤ 2) ∧ (a11 = 1 ∨ a11 = 3 ∨ a11 = 4 → 0 ≤ a14)) (h10 : ¬ (a5 ≠ (1 : Int))) (h11 : a6 = a14) (h12 : ¬ (a6 ≠ a2)) (h13 : a7 = a12) (h14 : ¬ (a7 ≠ a0)) (h15 : 0 ≤ a0 ∧ a0 ≤ 2 ∧ 0 ≤ a1 ∧ a1 ≤ 29 → a8 = 4 * (30 * a0 + a1)) (h16 : a9 = a8 + (1 : Int) ∨ a8 + (1 : Int) < -2147483648 ∨ 2147483648 ≤ a8 + (1 : Int)) (r0 : -2147483648 ≤ a0 ∧ a0 < 2147483648) (r1 : -2147483648 ≤ a1 ∧ a1 < 2147483648) (r2 : -2147483648 ≤ a2 ∧ a2 < 2147483648) (r3 : -2147483648 ≤ a3 ∧ a3 < 2147483648) (r4 : -2147483648 ≤ a4 ∧ a4 < 2147483648) (r5 : -2147483648 ≤ a5 ∧ a5 < 2147483648) (r6 : -2147483648 ≤ a6 ∧ a6 < 2147483648) (r7 : -2147483648 ≤ a7 ∧ a7 < 2147483648) (r8 : -2147483648 ≤ a8 ∧ a8 < 2147483648) (r9 : -2147483648 ≤ a9 ∧ a9 < 2147483648) : 0 ≤ a3 ∧ a3 ≤ 11 := by omega
theorem z_X11_leansOn_10 (a0 : Int) (a1 : Int) (a2 : Int) (a3 : Int) (a4 : Int) (a5 : Int) (a6 : Int) (a7 : Int) (a8 : Int) (a9 : Int) (a10 : Int) (a11 : Int) (a12 : Nat) (a13 : Int) (a14 : Int) (a15 : Int) (a16 : Int) (h0 : 0 ≤ a0 ∧ a0 ≤ 2) (h1 : 0 ≤ a1 ∧ a1 ≤ 29) (h2 : (0 : Int) ≤ a3) (h3 : 2147483648 - a3 < ((a12 + 1 : Nat) : Int)) (h4 : ¬ ((12 : Int) ≤ a3)) (h5 : a4 = 0 ∨ (a4 = 1 ∧ 0 ≤ a3 ∧ a3 ≤ 11 ∧ 0 ≤ a13)) (h6 : a4 = 0 ∨ a4 = 1) (h7 : ¬ (a4 = 0)) (h8 : a5 = a13) (h9 : (-1 ≤ a13 ∧ a13 ≤ 5) ∧ (0 ≤ a14 ∧ a14 ≤ 2) ∧ (0 ≤ a15 ∧ a15 ≤ 2) ∧ (-1 ≤ a16 ∧ a16 ≤ 2) ∧ (a13 = 1 ∨ a13 = 3 ∨ a13 = 4 → 0 ≤ a16)) (h10 : ¬ (a5 ≠ (1 : Int))) (h11 : a6 = a16) (h12 : ¬ (a6 ≠ a2)) (h13 : a7 = a14) (h14 : ¬ (a7 ≠ a0)) (h15 : 0 ≤ a0 ∧ a0 ≤ 2 ∧ 0 ≤ a1 ∧ a1 ≤ 29 → a8 = 4 * (30 * a0 + a1)) (h16 : a9 = a8 + (1 : Int) ∨ a8 + (1 : Int) < -2147483648 ∨ 2147483648 ≤ a8 + (1 : Int)) (h17 : a10 = a15) (h18 : a11 = a9 + a10 ∨ a9 + a10 < -2147483648 ∨ 2147483648 ≤ a9 + a10) (r0 : -2147483648 ≤ a0 ∧ a0 < 2147483648) (r1 : -2147483648 ≤ a1 ∧ a1 < 2147483648) (r2 : -2147483648 ≤ a2 ∧ a2 < 2147483648) (r3 : -2147483648 ≤ a3 ∧ a3 < 2147483648) (r4 : -2147483648 ≤ a4 ∧ a4 < 2147483648) (r5 : -2147483648 ≤ a5 ∧ a5 < 2147483648) (r6 : -2147483648 ≤ a6 ∧ a6 < 2147483648) (r7 : -2147483648 ≤ a7 ∧ a7 < 2147483648) (r8 : -2147483648 ≤ a8 ∧ a8 < 2147483648) (r9 : -2147483648 ≤ a9 ∧ a9 < 2147483648) (r10 : -2147483648 ≤ a10 ∧ a10 < 2147483648) (r11 : -2147483648 ≤ a11 ∧ a11 < 2147483648) : 0 ≤ a11 ∧ a11 < ((360 : Nat) : Int) := by omega
abbrev rm_X11_leansOn : Room := { frames := 3, cells := 0, slots := 0, locals := 67 }
set_option maxHeartbeats 4000000 in
set_option maxRecDepth 100000 in
theorem c_X11_leansOn (l : Launch) (E : XE) (K : Nat → Nat) (F : Nat → Nat → Nat) (tl z0 z1 z2 z3 z4 z5 z6 z7 z8 z9 z10 z11 z12 z13 z14 z15 z16 z17 z18 z19 z20 : Int32) (ar0 ar1 ar2 ar3 ar4 ar5 ar6 ar7 ar8 ar9 ar10 : Nat → Int32) (h0 : Heap) (a : Nat) (p0 : Int32) (p1 : Int32) (p2 : Int32) (p3 : Int32) (ha : K a = 13) (hR : RV ar1) (e0 : 0 ≤ p0.toInt ∧ p0.toInt ≤ 2) (e1 : 0 ≤ p1.toInt ∧ p1.toInt ≤ 29) : Met l yX11_leansOn (xw yX11_leansOn cX11_leansOn 7 (some .boolean)) rm_X11_leansOn (va_Pc [.ref a, .int p0, .int p1, .int p2, .int p3] (XPh E K F (tl, [z0, z1, z2, z3, z4, z5, z6, z7, z8, z9, z10, z11, z12, z13, z14, z15, z16, z17, z18, z19, z20], [ar0, ar1, ar2, ar3, ar4, ar5, ar6, ar7, ar8, ar9, ar10]) h0)) (XQ E (fun v (u : Unit) => ∃ r : Int32, v = .int r ∧ (r = 0 ∨ r = 1)) (fun _ H => H = h0)) 0 0 (xA E) := by
  refine x_enter (by decide) (Nat.le_of_ble_eq_true rfl) ?_
  intro p e s m args below meth c Q S hr hlk hnm hQ hP ls hl
  obtain ⟨⟨hz, hK, hT⟩, hh⟩ := hP
  obtain ⟨hx, hb, -, -, -⟩ := id S
  have hS : va_S (xA E) s.heap s.heap [] := va_S.rf
  have hl : lv_has ls 7 [(0, .ref a), (1, .int p0), (2, .int p1), (3, .int p2), (4, .int p3)] := hl
  refine lv_iconst (v := 0) hx hb dX11_leansOn_0 (by decide) ?_
  refine lv_istore (lv' := [(5, .int 0), (0, .ref a), (1, .int p0), (2, .int p1), (3, .int p2), (4, .int p3)]) hx hb dX11_leansOn_1 hl (by decide) rfl (fun ls hl => ?_)
  refine lv_iconst (v := 0) hx hb dX11_leansOn_3 (by decide) ?_
  refine lv_istore (lv' := [(6, .int 0), (5, .int 0), (0, .ref a), (1, .int p0), (2, .int p1), (3, .int p2), (4, .int p3)]) hx hb dX11_leansOn_4 hl (by decide) rfl (fun ls hl => ?_)
  have L6 : ∀ (N3 : Nat) (x1 : Int32) (x2 : Int32) (locs : List Loc) (ls : Array Slot), x1.toInt = 0 ∨ x1.toInt = 1 → (0 : Int) ≤ x2.toInt → 2147483648 - x2.toInt < ((N3 : Nat) : Int) → TW E K F (tl, [z0, z1, z2, z3, z4, z5, z6, z7, z8, z9, z10, z11, z12, z13, z14, z15, z16, z17, z18, z19, z20], [ar0, ar1, ar2, ar3, ar4, ar5, ar6, ar7, ar8, ar9, ar10]) [] s.heap → va_S (xA E) s.heap s.heap locs → lv_has ls 7 [(0, .ref a), (1, .int p0), (2, .int p1), (3, .int p2), (4, .int p3), (5, .int x1), (6, .int x2)] → W p l e rm_X11_leansOn s m args below meth c s.heap locs 0 0 Q (F0 m 6 ls []) := by
    intro N3
    induction N3 with
    | zero =>
      intro x1 x2 locs ls hf4 hf5 hm6
      exact absurd hm6 (z_X11_leansOn_1 x2.toInt hf5 (xr x2))
    | succ N3 ih7 =>
      intro x1 x2 locs ls hf4 hf5 hm6 hT hS hl
      refine lv_iload hx hb dX11_leansOn_6 (lv_at hl 6 rfl) ?_
      refine lv_bipush (v := 12) hx hb dX11_leansOn_8 (by decide) ?_
      refine xi_cge (tgt := 98) hx hb (rfl : Int32.toInt x2 = x2.toInt) ((by decide) : Int32.toInt 12 = (12 : Int)) dX11_leansOn_10 (by decide) (fun c8 => ?_) (fun c8 => ?_)
      · refine lv_iload hx hb dX11_leansOn_98 (lv_at hl 5 rfl) ?_
        refine xi_zeq (tgt := 116) hx hb (rfl : Int32.toInt x1 = x1.toInt) dX11_leansOn_100 (by decide) (fun c9 => ?_) (fun c9 => ?_)
        · refine lv_iconst (v := 0) hx hb dX11_leansOn_116 (by decide) ?_
          exact x_rz hx hb hr (xnz (Or.inl rfl)) hlk hQ (Nat.le_of_ble_eq_true rfl) (Nat.le_of_ble_eq_true rfl) hS dX11_leansOn_117 () ⟨_, rfl, (Or.inl rfl)⟩ hh
        · refine lv_aload_n hx hb dX11_leansOn_103 rfl (lv_at hl 0 rfl) ?_
          refine lv_iload_n hx hb dX11_leansOn_104 rfl (lv_at hl 1 rfl) ?_
          refine lv_iload_n hx hb dX11_leansOn_105 rfl (lv_at hl 2 rfl) ?_
          refine x_clp (x_runV (b := a) (As := [.int p0, .int p1]) (rest := []) S (c_X11_isRow l E K F tl z0 z1 z2 z3 z4 z5 z6 z7 z8 z9 z10 z11 z12 z13 z14 z15 z16 z17 z18 z19 z20 ar0 ar1 ar2 ar3 ar4 ar5 ar6 ar7 ar8 ar9 ar10 s.heap a p0 p1 ha) mv_X11_isRow km_X11_346 rfl rfl ⟨Nat.le_of_ble_eq_true rfl, Nat.le_of_ble_eq_true rfl⟩ (rc_13 hK hT ha) hK (fun _ => XPh.blind) (fun U hU hW => XPh.at hK hz hS hT hU hW) rfl hl.1 (Nat.le_of_ble_eq_true rfl) dX11_leansOn_106 ⟨Nat.le_of_ble_eq_true rfl, Nat.le_of_ble_eq_true rfl⟩) hS ?_
          rintro _ _ locs ⟨x11, rfl, b12, t10⟩ hS
          have t10 : x11.toInt = 0 ∨ (x11.toInt = 1 ∧ 0 ≤ p0.toInt ∧ p0.toInt ≤ 2 ∧ 0 ≤ p1.toInt ∧ p1.toInt ≤ 29 ∧ (aI ar0 (4 * (30 * p0.toInt + p1.toInt))) = 1) := t10
          refine xi_zeq (tgt := 116) hx hb (rfl : Int32.toInt x11 = x11.toInt) dX11_leansOn_109 (by decide) (fun c13 => ?_) (fun c13 => ?_)
          · refine lv_iconst (v := 0) hx hb dX11_leansOn_116 (by decide) ?_
            exact x_rz hx hb hr (xnz (Or.inl rfl)) hlk hQ (Nat.le_of_ble_eq_true rfl) (Nat.le_of_ble_eq_true rfl) hS dX11_leansOn_117 () ⟨_, rfl, (Or.inl rfl)⟩ hh
          · refine lv_iconst (v := 1) hx hb dX11_leansOn_112 (by decide) ?_
            refine lv_goto (tgt := 117) hx hb dX11_leansOn_113 (by decide) ?_
            exact x_rz hx hb hr (xnz (Or.inr rfl)) hlk hQ (Nat.le_of_ble_eq_true rfl) (Nat.le_of_ble_eq_true rfl) hS dX11_leansOn_117 () ⟨_, rfl, (Or.inr rfl)⟩ hh
      · refine lv_iload hx hb dX11_leansOn_13 (lv_at hl 5 rfl) ?_
        have J90 : ∀ (x14 : Int32) (locs : List Loc) (ls : Array Slot), x14.toInt = 0 ∨ x14.toInt = 1 → TW E K F (tl, [z0, z1, z2, z3, z4, z5, z6, z7, z8, z9, z10, z11, z12, z13, z14, z15, z16, z17, z18, z19, z20], [ar0, ar1, ar2, ar3, ar4, ar5, ar6, ar7, ar8, ar9, ar10]) [] s.heap → va_S (xA E) s.heap s.heap locs → lv_has ls 7 [(0, .ref a), (1, .int p0), (2, .int p1), (3, .int p2), (4, .int p3), (6, .int x2)] → W p l e rm_X11_leansOn s m args below meth c s.heap locs 0 0 Q (F0 m 90 ls [.int x14]) := by
          intro x14 locs ls hf15 hT hS hl
          refine lv_istore (lv' := [(5, .int x14), (0, .ref a), (1, .int p0), (2, .int p1), (3, .int p2), (4, .int p3), (6, .int x2)]) hx hb dX11_leansOn_90 hl (by decide) rfl (fun ls hl => ?_)
          refine xi_iinc (n := 1) (lv' := fun z9 => [(6, .int z9), (5, .int x14), (0, .ref a), (1, .int p0), (2, .int p1), (3, .int p2), (4, .int p3)]) (k := 6) hx hb (rfl : Int32.toInt x2 = x2.toInt) (by decide) dX11_leansOn_92 hl rfl (by decide) (fun _ => rfl) (fun x16 ls t17 hl => ?_)
          have hl : lv_has ls 7 [(6, .int x16), (5, .int x14), (0, .ref a), (1, .int p0), (2, .int p1), (3, .int p2), (4, .int p3)] := hl
          refine lv_goto (tgt := 6) hx hb dX11_leansOn_95 (by decide) ?_
          exact ih7 x14 x16 _ _ (z_X11_leansOn_2 x14.toInt hf15 (xr x14)) (z_X11_leansOn_3 x16.toInt x2.toInt N3 hf5 hm6 c8 t17 (xr x16) (xr x2)) (z_X11_leansOn_4 x16.toInt x2.toInt N3 hf5 hm6 c8 t17 (xr x16) (xr x2)) hT.nil hS (lv_sub hl [2, 3, 4, 5, 6, 1, 0] rfl)
        have J85 : ∀ (locs : List Loc) (ls : Array Slot), TW E K F (tl, [z0, z1, z2, z3, z4, z5, z6, z7, z8, z9, z10, z11, z12, z13, z14, z15, z16, z17, z18, z19, z20], [ar0, ar1, ar2, ar3, ar4, ar5, ar6, ar7, ar8, ar9, ar10]) [] s.heap → va_S (xA E) s.heap s.heap locs → lv_has ls 7 [(0, .ref a), (1, .int p0), (2, .int p1), (3, .int p2), (4, .int p3), (6, .int x2)] → W p l e rm_X11_leansOn s m args below meth c s.heap locs 0 0 Q (F0 m 85 ls []) := by
          intro locs ls hT hS hl
          refine lv_iconst (v := 1) hx hb dX11_leansOn_85 (by decide) ?_
          refine lv_goto (tgt := 90) hx hb dX11_leansOn_86 (by decide) ?_
          exact J90 1 _ _ (by decide) hT.nil hS (lv_sub hl [0, 1, 2, 3, 4, 5] rfl)
        refine xi_zne (tgt := 85) hx hb (rfl : Int32.toInt x1 = x1.toInt) dX11_leansOn_15 (by decide) (fun c18 => ?_) (fun c18 => ?_)
        · exact J85 _ _ hT.nil hS (lv_sub hl [0, 1, 2, 3, 4, 6] rfl)
        · refine lv_aload_n hx hb dX11_leansOn_18 rfl (lv_at hl 0 rfl) ?_
          refine lv_iload hx hb dX11_leansOn_19 (lv_at hl 6 rfl) ?_
          refine x_clp (x_runV (b := a) (As := [.int x2]) (rest := []) S (c_X11_isRule l E K F tl z0 z1 z2 z3 z4 z5 z6 z7 z8 z9 z10 z11 z12 z13 z14 z15 z16 z17 z18 z19 z20 ar0 ar1 ar2 ar3 ar4 ar5 ar6 ar7 ar8 ar9 ar10 s.heap a x2 ha hR) mv_X11_isRule km_X11_162 rfl rfl ⟨Nat.le_of_ble_eq_true rfl, Nat.le_of_ble_eq_true rfl⟩ (rc_13 hK hT ha) hK (fun _ => XPh.blind) (fun U hU hW => XPh.at hK hz hS hT hU hW) rfl hl.1 (Nat.le_of_ble_eq_true rfl) dX11_leansOn_21 ⟨Nat.le_of_ble_eq_true rfl, Nat.le_of_ble_eq_true rfl⟩) hS ?_
          rintro _ _ locs ⟨x20, rfl, b21, t19⟩ hS
          have t19 : x20.toInt = 0 ∨ (x20.toInt = 1 ∧ 0 ≤ x2.toInt ∧ x2.toInt ≤ 11 ∧ 0 ≤ (aI ar1 (10 * x2.toInt + (0 : Int)))) := t19
          have J89 : ∀ (locs : List Loc) (ls : Array Slot), TW E K F (tl, [z0, z1, z2, z3, z4, z5, z6, z7, z8, z9, z10, z11, z12, z13, z14, z15, z16, z17, z18, z19, z20], [ar0, ar1, ar2, ar3, ar4, ar5, ar6, ar7, ar8, ar9, ar10]) [] s.heap → va_S (xA E) s.heap s.heap locs → lv_has ls 7 [(0, .ref a), (1, .int p0), (2, .int p1), (3, .int p2), (4, .int p3), (6, .int x2)] → W p l e rm_X11_leansOn s m args below meth c s.heap locs 0 0 Q (F0 m 89 ls []) := by
            intro locs ls hT hS hl
            refine lv_iconst (v := 0) hx hb dX11_leansOn_89 (by decide) ?_
            exact J90 0 _ _ (by decide) hT.nil hS (lv_sub hl [0, 1, 2, 3, 4, 5] rfl)
          refine xi_zeq (tgt := 89) hx hb (rfl : Int32.toInt x20 = x20.toInt) dX11_leansOn_24 (by decide) (fun c22 => ?_) (fun c22 => ?_)
          · exact J89 _ _ hT.nil hS (lv_sub hl [0, 1, 2, 3, 4, 6] rfl)
          · refine lv_aload_n hx hb dX11_leansOn_27 rfl (lv_at hl 0 rfl) ?_
            refine lv_iload hx hb dX11_leansOn_28 (lv_at hl 6 rfl) ?_
            refine lv_iconst (v := 0) hx hb dX11_leansOn_30 (by decide) ?_
            refine x_clp (x_runV (b := a) (As := [.int x2, .int 0]) (rest := []) S (c_X11_of l E K F tl z0 z1 z2 z3 z4 z5 z6 z7 z8 z9 z10 z11 z12 z13 z14 z15 z16 z17 z18 z19 z20 ar0 ar1 ar2 ar3 ar4 ar5 ar6 ar7 ar8 ar9 ar10 s.heap a x2 0 ha (z_X11_leansOn_5 x2.toInt x20.toInt N3 (aI ar1 (10 * x2.toInt + (0 : Int))) hf5 hm6 c8 t19 (xbz b21) c22 (xr x2) (xr x20)) (by decide)) mv_X11_of km_X11_165 rfl rfl ⟨Nat.le_of_ble_eq_true rfl, Nat.le_of_ble_eq_true rfl⟩ (rc_13 hK hT ha) hK (fun _ => XPh.blind) (fun U hU hW => XPh.at hK hz hS hT hU hW) rfl hl.1 (Nat.le_of_ble_eq_true rfl) dX11_leansOn_31 ⟨Nat.le_of_ble_eq_true rfl, Nat.le_of_ble_eq_true rfl⟩) hS ?_
            rintro _ _ locs ⟨x24, rfl, t23⟩ hS
            have t23 : x24.toInt = (aI ar1 (10 * x2.toInt + (0 : Int))) := t23
            have v26 : (-1 ≤ (aI ar1 (10 * x2.toInt + (0 : Int))) ∧ (aI ar1 (10 * x2.toInt + (0 : Int))) ≤ 5) ∧ (0 ≤ (aI ar1 (10 * x2.toInt + (1 : Int))) ∧ (aI ar1 (10 * x2.toInt + (1 : Int))) ≤ 2) ∧ (0 ≤ (aI ar1 (10 * x2.toInt + (2 : Int))) ∧ (aI ar1 (10 * x2.toInt + (2 : Int))) ≤ 2) ∧ (-1 ≤ (aI ar1 (10 * x2.toInt + (3 : Int))) ∧ (aI ar1 (10 * x2.toInt + (3 : Int))) ≤ 2) ∧ ((aI ar1 (10 * x2.toInt + (0 : Int))) = 1 ∨ (aI ar1 (10 * x2.toInt + (0 : Int))) = 3 ∨ (aI ar1 (10 * x2.toInt + (0 : Int))) = 4 → 0 ≤ (aI ar1 (10 * x2.toInt + (3 : Int)))) := RV.row hR (z_X11_leansOn_6 x2.toInt x20.toInt x24.toInt N3 (aI ar1 (10 * x2.toInt + (0 : Int))) hf5 hm6 c8 t19 (xbz b21) c22 t23 (xr x2) (xr x20) (xr x24))
            refine lv_iconst (v := 1) hx hb dX11_leansOn_34 (by decide) ?_
            refine xi_cne (tgt := 89) hx hb (rfl : Int32.toInt x24 = x24.toInt) ((by decide) : Int32.toInt 1 = (1 : Int)) dX11_leansOn_35 (by decide) (fun c27 => ?_) (fun c27 => ?_)
            · exact J89 _ _ hT.nil hS (lv_sub hl [0, 1, 2, 3, 4, 6] rfl)
            · refine lv_aload_n hx hb dX11_leansOn_38 rfl (lv_at hl 0 rfl) ?_
              refine lv_iload hx hb dX11_leansOn_39 (lv_at hl 6 rfl) ?_
              refine lv_iconst (v := 3) hx hb dX11_leansOn_41 (by decide) ?_
              refine x_clp (x_runV (b := a) (As := [.int x2, .int 3]) (rest := []) S (c_X11_of l E K F tl z0 z1 z2 z3 z4 z5 z6 z7 z8 z9 z10 z11 z12 z13 z14 z15 z16 z17 z18 z19 z20 ar0 ar1 ar2 ar3 ar4 ar5 ar6 ar7 ar8 ar9 ar10 s.heap a x2 3 ha (z_X11_leansOn_7 x2.toInt x20.toInt x24.toInt N3 (aI ar1 (10 * x2.toInt + (0 : Int))) (aI ar1 (10 * x2.toInt + (1 : Int))) (aI ar1 (10 * x2.toInt + (2 : Int))) (aI ar1 (10 * x2.toInt + (3 : Int))) hf5 hm6 c8 t19 (xbz b21) c22 t23 v26 c27 (xr x2) (xr x20) (xr x24)) (by decide)) mv_X11_of km_X11_165 rfl rfl ⟨Nat.le_of_ble_eq_true rfl, Nat.le_of_ble_eq_true rfl⟩ (rc_13 hK hT ha) hK (fun _ => XPh.blind) (fun U hU hW => XPh.at hK hz hS hT hU hW) rfl hl.1 (Nat.le_of_ble_eq_true rfl) dX11_leansOn_42 ⟨Nat.le_of_ble_eq_true rfl, Nat.le_of_ble_eq_true rfl⟩) hS ?_
              rintro _ _ locs ⟨x29, rfl, t28⟩ hS
              have t28 : x29.toInt = (aI ar1 (10 * x2.toInt + (3 : Int))) := t28
              refine lv_iload_n hx hb dX11_leansOn_45 rfl (lv_at hl 3 rfl) ?_
              refine xi_cne (tgt := 89) hx hb (rfl : Int32.toInt x29 = x29.toInt) (rfl : Int32.toInt p2 = p2.toInt) dX11_leansOn_46 (by decide) (fun c31 => ?_) (fun c31 => ?_)
              · exact J89 _ _ hT.nil hS (lv_sub hl [0, 1, 2, 3, 4, 6] rfl)
              · refine lv_aload_n hx hb dX11_leansOn_49 rfl (lv_at hl 0 rfl) ?_
                refine lv_iload hx hb dX11_leansOn_50 (lv_at hl 6 rfl) ?_
                refine lv_iconst (v := 1) hx hb dX11_leansOn_52 (by decide) ?_
                refine x_clp (x_runV (b := a) (As := [.int x2, .int 1]) (rest := []) S (c_X11_of l E K F tl z0 z1 z2 z3 z4 z5 z6 z7 z8 z9 z10 z11 z12 z13 z14 z15 z16 z17 z18 z19 z20 ar0 ar1 ar2 ar3 ar4 ar5 ar6 ar7 ar8 ar9 ar10 s.heap a x2 1 ha (z_X11_leansOn_8 p2.toInt x2.toInt x20.toInt x24.toInt x29.toInt N3 (aI ar1 (10 * x2.toInt + (0 : Int))) (aI ar1 (10 * x2.toInt + (1 : Int))) (aI ar1 (10 * x2.toInt + (2 : Int))) (aI ar1 (10 * x2.toInt + (3 : Int))) hf5 hm6 c8 t19 (xbz b21) c22 t23 v26 c27 t28 c31 (xr p2) (xr x2) (xr x20) (xr x24) (xr x29)) (by decide)) mv_X11_of km_X11_165 rfl rfl ⟨Nat.le_of_ble_eq_true rfl, Nat.le_of_ble_eq_true rfl⟩ (rc_13 hK hT ha) hK (fun _ => XPh.blind) (fun U hU hW => XPh.at hK hz hS hT hU hW) rfl hl.1 (Nat.le_of_ble_eq_true rfl) dX11_leansOn_53 ⟨Nat.le_of_ble_eq_true rfl, Nat.le_of_ble_eq_true rfl⟩) hS ?_
                rintro _ _ locs ⟨x33, rfl, t32⟩ hS
                have t32 : x33.toInt = (aI ar1 (10 * x2.toInt + (1 : Int))) := t32
                refine lv_iload_n hx hb dX11_leansOn_56 rfl (lv_at hl 1 rfl) ?_
                refine xi_cne (tgt := 89) hx hb (rfl : Int32.toInt x33 = x33.toInt) (rfl : Int32.toInt p0 = p0.toInt) dX11_leansOn_57 (by decide) (fun c35 => ?_) (fun c35 => ?_)
                · exact J89 _ _ hT.nil hS (lv_sub hl [0, 1, 2, 3, 4, 6] rfl)
                · refine lv_aload_n hx hb dX11_leansOn_60 rfl (lv_at hl 0 rfl) ?_
                  refine gX11_1 S hK hT ha kf_X11_9 dX11_leansOn_61 (fun hk36 => ?_)
                  refine lv_iload_n hx hb dX11_leansOn_64 rfl (lv_at hl 1 rfl) ?_
                  refine lv_iload_n hx hb dX11_leansOn_65 rfl (lv_at hl 2 rfl) ?_
                  refine x_clp (x_runS (As := [.int p0, .int p1]) (rest := [.ref (F a 1)]) S (c_X11_at l E K F tl z0 z1 z2 z3 z4 z5 z6 z7 z8 z9 z10 z11 z12 z13 z14 z15 z16 z17 z18 z19 z20 ar0 ar1 ar2 ar3 ar4 ar5 ar6 ar7 ar8 ar9 ar10 s.heap p0 p1) ms_X11_at km_X11_156 rfl rfl ⟨Nat.le_of_ble_eq_true rfl, Nat.le_of_ble_eq_true rfl⟩ hK (fun _ => XPh.blind) (fun U hU hW => XPh.at hK hz hS hT hU hW) rfl hl.1 (Nat.le_of_ble_eq_true rfl) dX11_leansOn_66 ⟨Nat.le_of_ble_eq_true rfl, Nat.le_of_ble_eq_true rfl⟩) hS ?_
                  rintro _ _ locs ⟨x38, rfl, t37⟩ hS
                  have t37 : 0 ≤ p0.toInt ∧ p0.toInt ≤ 2 ∧ 0 ≤ p1.toInt ∧ p1.toInt ≤ 29 → x38.toInt = 4 * (30 * p0.toInt + p1.toInt) := t37
                  refine lv_iconst (v := 1) hx hb dX11_leansOn_69 (by decide) ?_
                  refine xi_iadd hx hb (rfl : Int32.toInt x38 = x38.toInt) ((by decide) : Int32.toInt 1 = (1 : Int)) dX11_leansOn_70 (fun x40 t41 => ?_)
                  refine lv_aload_n hx hb dX11_leansOn_71 rfl (lv_at hl 0 rfl) ?_
                  refine lv_iload hx hb dX11_leansOn_72 (lv_at hl 6 rfl) ?_
                  refine lv_iconst (v := 2) hx hb dX11_leansOn_74 (by decide) ?_
                  refine x_clp (x_runV (b := a) (As := [.int x2, .int 2]) (rest := [.int x40, .ref (F a 1)]) S (c_X11_of l E K F tl z0 z1 z2 z3 z4 z5 z6 z7 z8 z9 z10 z11 z12 z13 z14 z15 z16 z17 z18 z19 z20 ar0 ar1 ar2 ar3 ar4 ar5 ar6 ar7 ar8 ar9 ar10 s.heap a x2 2 ha (z_X11_leansOn_9 p0.toInt p1.toInt p2.toInt x2.toInt x20.toInt x24.toInt x29.toInt x33.toInt x38.toInt x40.toInt N3 (aI ar1 (10 * x2.toInt + (0 : Int))) (aI ar1 (10 * x2.toInt + (1 : Int))) (aI ar1 (10 * x2.toInt + (2 : Int))) (aI ar1 (10 * x2.toInt + (3 : Int))) e0 e1 hf5 hm6 c8 t19 (xbz b21) c22 t23 v26 c27 t28 c31 t32 c35 t37 t41 (xr p0) (xr p1) (xr p2) (xr x2) (xr x20) (xr x24) (xr x29) (xr x33) (xr x38) (xr x40)) (by decide)) mv_X11_of km_X11_165 rfl rfl ⟨Nat.le_of_ble_eq_true rfl, Nat.le_of_ble_eq_true rfl⟩ (rc_13 hK hT ha) hK (fun _ => XPh.blind) (fun U hU hW => XPh.at hK hz hS hT hU hW) rfl hl.1 (Nat.le_of_ble_eq_true rfl) dX11_leansOn_75 ⟨Nat.le_of_ble_eq_true rfl, Nat.le_of_ble_eq_true rfl⟩) hS ?_
                  rintro _ _ locs ⟨x43, rfl, t42⟩ hS
                  have t42 : x43.toInt = (aI ar1 (10 * x2.toInt + (2 : Int))) := t42
                  refine xi_iadd hx hb (rfl : Int32.toInt x40 = x40.toInt) (rfl : Int32.toInt x43 = x43.toInt) dX11_leansOn_78 (fun x45 t46 => ?_)
                  refine tld_0 S hK hT hk36 (at_30 (f := ar0) rfl) (by decide) (z_X11_leansOn_10 p0.toInt p1.toInt p2.toInt x2.toInt x20.toInt x24.toInt x29.toInt x33.toInt x38.toInt x40.toInt x43.toInt x45.toInt N3 (aI ar1 (10 * x2.toInt + (0 : Int))) (aI ar1 (10 * x2.toInt + (1 : Int))) (aI ar1 (10 * x2.toInt + (2 : Int))) (aI ar1 (10 * x2.toInt + (3 : Int))) e0 e1 hf5 hm6 c8 t19 (xbz b21) c22 t23 v26 c27 t28 c31 t32 c35 t37 t41 t42 t46 (xr p0) (xr p1) (xr p2) (xr x2) (xr x20) (xr x24) (xr x29) (xr x33) (xr x38) (xr x40) (xr x43) (xr x45)) dX11_leansOn_79 (fun x47 w48 o49 => ?_)
                  refine lv_iload hx hb dX11_leansOn_80 (lv_at hl 4 rfl) ?_
                  refine xi_cne (tgt := 89) hx hb (rfl : Int32.toInt x47 = x47.toInt) (rfl : Int32.toInt p3 = p3.toInt) dX11_leansOn_82 (by decide) (fun c51 => ?_) (fun c51 => ?_)
                  · exact J89 _ _ hT.nil hS (lv_sub hl [0, 1, 2, 3, 4, 6] rfl)
                  · exact J85 _ _ hT.nil hS (lv_sub hl [0, 1, 2, 3, 4, 6] rfl)
  exact L6 4294967297 0 0 _ _ (by decide) (by decide) (by decide) hT.nil hS (lv_sub hl [2, 3, 4, 5, 6, 1, 0] rfl)

theorem z_X11_least_1 (a0 : Int) (h0 : (-99 : Int) ≤ a0) (r0 : -2147483648 ≤ a0 ∧ a0 < 2147483648) : ¬ (2147483648 - a0 < ((0 : Nat) : Int)) := by omega
theorem z_X11_least_2 (a0 : Int) (a1 : Int) (a2 : Int) (a3 : Int) (a4 : Int) (a5 : Int) (a6 : Int) (a7 : Int) (a8 : Int) (h0 : a6 = 0 ∨ (a6 = 1 ∧ 0 ≤ a0 ∧ a0 ≤ 2 ∧ 0 ≤ a1 ∧ a1 ≤ 29 ∧ a8 = 1)) (h1 : a6 = 0 ∨ a6 = 1) (h2 : ¬ (a6 = 0)) (h3 : (a7 = 1 ∧ 0 ≤ a2 ∧ a2 ≤ 2) ∨ (a7 = 0 ∧ (a2 < 0 ∨ 2 < a2))) (h4 : a7 = 0 ∨ a7 = 1) (h5 : a7 ≠ 0) (h6 : 0 ≤ a0 ∧ a0 ≤ 2 ∧ 0 ≤ a1 ∧ a1 ≤ 29 → a3 = 4 * (30 * a0 + a1)) (h7 : a4 = a3 + (1 : Int) ∨ a3 + (1 : Int) < -2147483648 ∨ 2147483648 ≤ a3 + (1 : Int)) (h8 : a5 = a4 + a2 ∨ a4 + a2 < -2147483648 ∨ 2147483648 ≤ a4 + a2) (r0 : -2147483648 ≤ a0 ∧ a0 < 2147483648) (r1 : -2147483648 ≤ a1 ∧ a1 < 2147483648) (r2 : -2147483648 ≤ a2 ∧ a2 < 2147483648) (r3 : -2147483648 ≤ a3 ∧ a3 < 2147483648) (r4 : -2147483648 ≤ a4 ∧ a4 < 2147483648) (r5 : -2147483648 ≤ a5 ∧ a5 < 2147483648) (r6 : -2147483648 ≤ a6 ∧ a6 < 2147483648) (r7 : -2147483648 ≤ a7 ∧ a7 < 2147483648) : 0 ≤ a5 ∧ a5 < ((360 : Nat) : Int) := by omega
theorem z_X11_least_3 (a0 : Int) (a1 : Int) (a2 : Int) (a3 : Int) (a4 : Int) (a5 : Int) (a6 : Int) (a7 : Int) (a8 : Int) (h0 : a6 = 0 ∨ (a6 = 1 ∧ 0 ≤ a0 ∧ a0 ≤ 2 ∧ 0 ≤ a1 ∧ a1 ≤ 29 ∧ a8 = 1)) (h1 : a6 = 0 ∨ a6 = 1) (h2 : ¬ (a6 = 0)) (h3 : (a7 = 1 ∧ 0 ≤ a2 ∧ a2 ≤ 2) ∨ (a7 = 0 ∧ (a2 < 0 ∨ 2 < a2))) (h4 : a7 = 0 ∨ a7 = 1) (h5 : a7 ≠ 0) (h6 : 0 ≤ a0 ∧ a0 ≤ 2 ∧ 0 ≤ a1 ∧ a1 ≤ 29 → a3 = 4 * (30 * a0 + a1)) (h7 : a4 = a3 + (1 : Int) ∨ a3 + (1 : Int) < -2147483648 ∨ 2147483648 ≤ a3 + (1 : Int)) (h8 : a5 = a4 + a2 ∨ a4 + a2 < -2147483648 ∨ 2147483648 ≤ a4 + a2) (r0 : -2147483648 ≤ a0 ∧ a0 < 2147483648) (r1 : -2147483648 ≤ a1 ∧ a1 < 2147483648) (r2 : -2147483648 ≤ a2 ∧ a2 < 2147483648) (r3 : -2147483648 ≤ a3 ∧ a3 < 2147483648) (r4 : -2147483648 ≤ a4 ∧ a4 < 2147483648) (r5 : -2147483648 ≤ a5 ∧ a5 < 2147483648) (r6 : -2147483648 ≤ a6 ∧ a6 < 2147483648) (r7 : -2147483648 ≤ a7 ∧ a7 < 2147483648) : 0 ≤ a5 ∧ a5 < ((360 : Nat) : Int) := by omega
theorem z_X11_least_4 (a0 : Int) (a1 : Int) (a2 : Int) (a3 : Int) (a4 : Int) (a5 : Int) (a6 : Int) (a7 : Int) (a8 : Int) (h0 : a6 = 0 ∨ (a6 = 1 ∧ 0 ≤ a0 ∧ a0 ≤ 2 ∧ 0 ≤ a1 ∧ a1 ≤ 29 ∧ a8 = 1)) (h1 : a6 = 0 ∨ a6 = 1) (h2 : ¬ (a6 = 0)) (h3 : (a7 = 1 ∧ 0 ≤ a2 ∧ a2 ≤ 2) ∨ (a7 = 0 ∧ (a2 < 0 ∨ 2 < a2))) (h4 : a7 = 0 ∨ a7 = 1) (h5 : a7 ≠ 0) (h6 : 0 ≤ a0 ∧ a0 ≤ 2 ∧ 0 ≤ a1 ∧ a1 ≤ 29 → a3 = 4 * (30 * a0 + a1)) (h7 : a4 = a3 + (1 : Int) ∨ a3 + (1 : Int) < -2147483648 ∨ 2147483648 ≤ a3 + (1 : Int)) (h8 : a5 = a4 + a2 ∨ a4 + a2 < -2147483648 ∨ 2147483648 ≤ a4 + a2) (r0 : -2147483648 ≤ a0 ∧ a0 < 2147483648) (r1 : -2147483648 ≤ a1 ∧ a1 < 2147483648) (r2 : -2147483648 ≤ a2 ∧ a2 < 2147483648) (r3 : -2147483648 ≤ a3 ∧ a3 < 2147483648) (r4 : -2147483648 ≤ a4 ∧ a4 < 2147483648) (r5 : -2147483648 ≤ a5 ∧ a5 < 2147483648) (r6 : -2147483648 ≤ a6 ∧ a6 < 2147483648) (r7 : -2147483648 ≤ a7 ∧ a7 < 2147483648) : 0 ≤ a5 ∧ a5 < ((360 : Nat) : Int) := by omega
theorem z_X11_least_5 (a0 : Int) (a1 : Int) (a2 : Nat) (h0 : (-99 : Int) ≤ a0) (h1 : 2147483648 - a0 < ((a2 + 1 : Nat) : Int)) (h2 : ¬ ((99 : Int) < a0)) (h3 : a1 = a0 + 1 ∨ a0 + 1 < -2147483648 ∨ 2147483648 ≤ a0 + 1) (r0 : -2147483648 ≤ a0 ∧ a0 < 2147483648) (r1 : -2147483648 ≤ a1 ∧ a1 < 2147483648) : (-99 : Int) ≤ a1 := by omega
theorem z_X11_least_6 (a0 : Int) (a1 : Int) (a2 : Nat) (h0 : (-99 : Int) ≤ a0) (h1 : 2147483648 - a0 < ((a2 + 1 : Nat) : Int)) (h2 : ¬ ((99 : Int) < a0)) (h3 : a1 = a0 + 1 ∨ a0 + 1 < -2147483648 ∨ 2147483648 ≤ a0 + 1) (r0 : -2147483648 ≤ a0 ∧ a0 < 2147483648) (r1 : -2147483648 ≤ a1 ∧ a1 < 2147483648) : 2147483648 - a1 < ((a2 : Nat) : Int) := by omega
theorem z_X11_least_7 (a0 : Int) (a1 : Int) (a2 : Int) (a3 : Int) (a4 : Int) (a5 : Int) (a6 : Int) (a7 : Int) (a8 : Int) (h0 : a6 = 0 ∨ (a6 = 1 ∧ 0 ≤ a0 ∧ a0 ≤ 2 ∧ 0 ≤ a1 ∧ a1 ≤ 29 ∧ a8 = 1)) (h1 : a6 = 0 ∨ a6 = 1) (h2 : ¬ (a6 = 0)) (h3 : (a7 = 1 ∧ 0 ≤ a2 ∧ a2 ≤ 2) ∨ (a7 = 0 ∧ (a2 < 0 ∨ 2 < a2))) (h4 : a7 = 0 ∨ a7 = 1) (h5 : a7 ≠ 0) (h6 : 0 ≤ a0 ∧ a0 ≤ 2 ∧ 0 ≤ a1 ∧ a1 ≤ 29 → a3 = 4 * (30 * a0 + a1)) (h7 : a4 = a3 + (1 : Int) ∨ a3 + (1 : Int) < -2147483648 ∨ 2147483648 ≤ a3 + (1 : Int)) (h8 : a5 = a4 + a2 ∨ a4 + a2 < -2147483648 ∨ 2147483648 ≤ a4 + a2) (r0 : -2147483648 ≤ a0 ∧ a0 < 2147483648) (r1 : -2147483648 ≤ a1 ∧ a1 < 2147483648) (r2 : -2147483648 ≤ a2 ∧ a2 < 2147483648) (r3 : -2147483648 ≤ a3 ∧ a3 < 2147483648) (r4 : -2147483648 ≤ a4 ∧ a4 < 2147483648) (r5 : -2147483648 ≤ a5 ∧ a5 < 2147483648) (r6 : -2147483648 ≤ a6 ∧ a6 < 2147483648) (r7 : -2147483648 ≤ a7 ∧ a7 < 2147483648) : 0 ≤ a5 ∧ a5 < ((360 : Nat) : Int) := by omega
abbrev rm_X11_least : Room := { frames := 6, cells := 0, slots := 0, locals := 146 }
set_option maxHeartbeats 4000000 in
set_option maxRecDepth 100000 in
theorem c_X11_least (l : Launch) (E : XE) (K : Nat → Nat) (F : Nat → Nat → Nat) (tl z0 z1 z2 z3 z4 z5 z6 z7 z8 z9 z10 z11 z12 z13 z14 z15 z16 z17 z18 z19 z20 : Int32) (ar0 ar1 ar2 ar3 ar4 ar5 ar6 ar7 ar8 ar9 ar10 : Nat → Int32) (a : Nat) (p0 : Int32) (p1 : Int32) (p2 : Int32) (ha : K a = 13) (hR : RV ar1) : Met l yX11_least (xw yX11_least cX11_least 7 (some .int)) rm_X11_least (va_Pc [.ref a, .int p0, .int p1, .int p2] (XP E K F (tl, [z0, z1, z2, z3, z4, z5, z6, z7, z8, z9, z10, z11, z12, z13, z14, z15, z16, z17, z18, z19, z20], [ar0, ar1, ar2, ar3, ar4, ar5, ar6, ar7, ar8, ar9, ar10]))) (XQ E (fun v (u : Int32 × Int32 × Int32 × (Nat → Int32) × (Nat → Int32) × (Nat → Int32) × (Nat → Int32)) => ∃ r : Int32, v = .int r) (fun u H => TW E K F (tl, [u.1, z1, z2, u.2.1, u.2.2.1, z5, z6, z7, z8, z9, z10, z11, z12, z13, z14, z15, z16, z17, z18, z19, z20], [u.2.2.2.1, ar1, u.2.2.2.2.1, u.2.2.2.2.2.1, u.2.2.2.2.2.2, ar5, ar6, ar7, ar8, ar9, ar10]) [] H)) 0 0 (xA E) := by
  refine x_enter (by decide) (Nat.le_of_ble_eq_true rfl) ?_
  intro p e s m args below meth c Q S hr hlk hnm hQ hP ls hl
  obtain ⟨hz, hK, hT⟩ := hP
  obtain ⟨hx, hb, -, -, -⟩ := id S
  obtain ⟨H, hT, hS, hgo⟩ : ∃ H : Heap, TW E K F (tl, [z0, z1, z2, z3, z4, z5, z6, z7, z8, z9, z10, z11, z12, z13, z14, z15, z16, z17, z18, z19, z20], [ar0, ar1, ar2, ar3, ar4, ar5, ar6, ar7, ar8, ar9, ar10]) [] H ∧ va_S (xA E) s.heap H [] ∧ H = s.heap := ⟨_, hT, va_S.rf, rfl⟩
  rw [← hgo]
  have hl : lv_has ls 7 [(0, .ref a), (1, .int p0), (2, .int p1), (3, .int p2)] := hl
  refine lv_aload_n hx hb dX11_least_0 rfl (lv_at hl 0 rfl) ?_
  refine lv_iconst (v := 0) hx hb dX11_least_1 (by decide) ?_
  refine pX11_0 (kq := []) (v := 0) S hK hT hS ha kf_X11_134 (Nat.le_of_ble_eq_true rfl) dX11_least_2 (fun _ h => by cases h) (fun H locs hT hS => ?_)
  have hT : TW E K F (tl, [0, z1, z2, z3, z4, z5, z6, z7, z8, z9, z10, z11, z12, z13, z14, z15, z16, z17, z18, z19, z20], [ar0, ar1, ar2, ar3, ar4, ar5, ar6, ar7, ar8, ar9, ar10]) [] H := hT
  refine lv_aload_n hx hb dX11_least_5 rfl (lv_at hl 0 rfl) ?_
  refine lv_iload_n hx hb dX11_least_6 rfl (lv_at hl 1 rfl) ?_
  refine lv_iload_n hx hb dX11_least_7 rfl (lv_at hl 2 rfl) ?_
  refine x_clp (x_runV (b := a) (As := [.int p0, .int p1]) (rest := []) S (c_X11_isRow l E K F tl 0 z1 z2 z3 z4 z5 z6 z7 z8 z9 z10 z11 z12 z13 z14 z15 z16 z17 z18 z19 z20 ar0 ar1 ar2 ar3 ar4 ar5 ar6 ar7 ar8 ar9 ar10 H a p0 p1 ha) mv_X11_isRow km_X11_346 rfl rfl ⟨Nat.le_of_ble_eq_true rfl, Nat.le_of_ble_eq_true rfl⟩ (rc_13 hK hT ha) hK (fun _ => XPh.blind) (fun U hU hW => XPh.at hK hz hS hT hU hW) rfl hl.1 (Nat.le_of_ble_eq_true rfl) dX11_least_8 ⟨Nat.le_of_ble_eq_true rfl, Nat.le_of_ble_eq_true rfl⟩) hS ?_
  rintro _ _ locs ⟨x2, rfl, b3, t1⟩ hS
  have t1 : x2.toInt = 0 ∨ (x2.toInt = 1 ∧ 0 ≤ p0.toInt ∧ p0.toInt ≤ 2 ∧ 0 ≤ p1.toInt ∧ p1.toInt ≤ 29 ∧ (aI ar0 (4 * (30 * p0.toInt + p1.toInt))) = 1) := t1
  refine xi_zeq (tgt := 21) hx hb (rfl : Int32.toInt x2 = x2.toInt) dX11_least_11 (by decide) (fun c4 => ?_) (fun c4 => ?_)
  · refine lv_ldc (v := (-2147483648)) hx hb S.2.2.2.1 (S.2.2.2.2 _ (List.mem_cons_of_mem _ kc_X11_57)) dX11_least_21 ?_
    exact x_ri hx hb hr hlk hQ (Nat.le_of_ble_eq_true rfl) (Nat.le_of_ble_eq_true rfl) hS dX11_least_23 (0, z3, z4, ar0, ar2, ar3, ar4) ⟨_, rfl⟩ hT.nil
  · refine lv_iload_n hx hb dX11_least_14 rfl (lv_at hl 3 rfl) ?_
    refine x_clp (x_runS (As := [.int p2]) (rest := []) S (c_X11_isColumn l E K F tl 0 z1 z2 z3 z4 z5 z6 z7 z8 z9 z10 z11 z12 z13 z14 z15 z16 z17 z18 z19 z20 ar0 ar1 ar2 ar3 ar4 ar5 ar6 ar7 ar8 ar9 ar10 H p2) ms_X11_isColumn km_X11_356 rfl rfl ⟨Nat.le_of_ble_eq_true rfl, Nat.le_of_ble_eq_true rfl⟩ hK (fun _ => XPh.blind) (fun U hU hW => XPh.at hK hz hS hT hU hW) rfl hl.1 (Nat.le_of_ble_eq_true rfl) dX11_least_15 ⟨Nat.le_of_ble_eq_true rfl, Nat.le_of_ble_eq_true rfl⟩) hS ?_
    rintro _ _ locs ⟨x6, rfl, b7, t5⟩ hS
    have t5 : (x6.toInt = 1 ∧ 0 ≤ p2.toInt ∧ p2.toInt ≤ 2) ∨ (x6.toInt = 0 ∧ (p2.toInt < 0 ∨ 2 < p2.toInt)) := t5
    refine xi_zne (tgt := 24) hx hb (rfl : Int32.toInt x6 = x6.toInt) dX11_least_18 (by decide) (fun c8 => ?_) (fun c8 => ?_)
    · refine lv_aload_n hx hb dX11_least_24 rfl (lv_at hl 0 rfl) ?_
      refine x_cv0 (x_runV (b := a) (As := []) (rest := []) S (c_X11_start l E K F tl 0 z1 z2 z3 z4 z5 z6 z7 z8 z9 z10 z11 z12 z13 z14 z15 z16 z17 z18 z19 z20 ar0 ar1 ar2 ar3 ar4 ar5 ar6 ar7 ar8 ar9 ar10 a ha hR) mv_X11_start km_X11_350 rfl rfl ⟨Nat.le_of_ble_eq_true rfl, Nat.le_of_ble_eq_true rfl⟩ (rc_13 hK hT ha) hK (fun _ => XP.blind) (fun U hU hW => XP.at hK hz hS hT hU hW) rfl hl.1 (Nat.le_of_ble_eq_true rfl) dX11_least_25 ⟨Nat.le_of_ble_eq_true rfl, Nat.le_of_ble_eq_true rfl⟩) hS ?_
      rintro _ H locs - hT hS
      refine lv_iload_n hx hb dX11_least_28 rfl (lv_at hl 1 rfl) ?_
      refine lv_iload_n hx hb dX11_least_29 rfl (lv_at hl 2 rfl) ?_
      refine x_clp (x_runS (As := [.int p0, .int p1]) (rest := []) S (c_X11_at l E K F tl 0 z1 z2 z3 z4 z5 z6 z7 z8 z9 z10 z11 z12 z13 z14 z15 z16 z17 z18 z19 z20 ar0 ar1 ar2 ar3 ar4 ar5 ar6 ar7 ar8 ar9 ar10 H p0 p1) ms_X11_at km_X11_156 rfl rfl ⟨Nat.le_of_ble_eq_true rfl, Nat.le_of_ble_eq_true rfl⟩ hK (fun _ => XPh.blind) (fun U hU hW => XPh.at hK hz hS hT hU hW) rfl hl.1 (Nat.le_of_ble_eq_true rfl) dX11_least_30 ⟨Nat.le_of_ble_eq_true rfl, Nat.le_of_ble_eq_true rfl⟩) hS ?_
      rintro _ _ locs ⟨x12, rfl, t11⟩ hS
      have t11 : 0 ≤ p0.toInt ∧ p0.toInt ≤ 2 ∧ 0 ≤ p1.toInt ∧ p1.toInt ≤ 29 → x12.toInt = 4 * (30 * p0.toInt + p1.toInt) := t11
      refine lv_iconst (v := 1) hx hb dX11_least_33 (by decide) ?_
      refine xi_iadd hx hb (rfl : Int32.toInt x12 = x12.toInt) ((by decide) : Int32.toInt 1 = (1 : Int)) dX11_least_34 (fun x14 t15 => ?_)
      refine lv_iload_n hx hb dX11_least_35 rfl (lv_at hl 3 rfl) ?_
      refine xi_iadd hx hb (rfl : Int32.toInt x14 = x14.toInt) (rfl : Int32.toInt p2 = p2.toInt) dX11_least_36 (fun x16 t17 => ?_)
      refine lv_istore (lv' := [(4, .int x16), (0, .ref a), (1, .int p0), (2, .int p1), (3, .int p2)]) hx hb dX11_least_37 hl (by decide) rfl (fun ls hl => ?_)
      refine lv_ldc (v := (-2147483648)) hx hb S.2.2.2.1 (S.2.2.2.2 _ (List.mem_cons_of_mem _ kc_X11_57)) dX11_least_39 ?_
      refine lv_istore (lv' := [(5, .int (-2147483648)), (4, .int x16), (0, .ref a), (1, .int p0), (2, .int p1), (3, .int p2)]) hx hb dX11_least_41 hl (by decide) rfl (fun ls hl => ?_)
      refine lv_bipush (v := (-99)) hx hb dX11_least_43 (by decide) ?_
      refine lv_istore (lv' := [(6, .int (-99)), (5, .int (-2147483648)), (4, .int x16), (0, .ref a), (1, .int p0), (2, .int p1), (3, .int p2)]) hx hb dX11_least_45 hl (by decide) rfl (fun ls hl => ?_)
      have L47 : ∀ (N26 : Nat) (x18 : Int32) (x19 : Int32) (x20 : Int32) (x21 : Int32) (f22 : Nat → Int32) (f23 : Nat → Int32) (f24 : Nat → Int32) (f25 : Nat → Int32) (H : Heap) (locs : List Loc) (ls : Array Slot), (-99 : Int) ≤ x19.toInt → 2147483648 - x19.toInt < ((N26 : Nat) : Int) → TW E K F (tl, [0, z1, z2, x20, x21, z5, z6, z7, z8, z9, z10, z11, z12, z13, z14, z15, z16, z17, z18, z19, z20], [f22, ar1, f23, f24, f25, ar5, ar6, ar7, ar8, ar9, ar10]) [] H → va_S (xA E) s.heap H locs → lv_has ls 7 [(0, .ref a), (4, .int x16), (5, .int x18), (6, .int x19)] → W p l e rm_X11_least s m args below meth c H locs 0 0 Q (F0 m 47 ls []) := by
        intro N26
        induction N26 with
        | zero =>
          intro x18 x19 x20 x21 f22 f23 f24 f25 H locs ls hf27 hm28
          exact absurd hm28 (z_X11_least_1 x19.toInt hf27 (xr x19))
        | succ N26 ih29 =>
          intro x18 x19 x20 x21 f22 f23 f24 f25 H locs ls hf27 hm28 hT hS hl
          refine lv_iload hx hb dX11_least_47 (lv_at hl 3 rfl) ?_
          refine lv_bipush (v := 99) hx hb dX11_least_49 (by decide) ?_
          have J119 : ∀ (H : Heap) (locs : List Loc) (ls : Array Slot), TW E K F (tl, [0, z1, z2, x20, x21, z5, z6, z7, z8, z9, z10, z11, z12, z13, z14, z15, z16, z17, z18, z19, z20], [f22, ar1, f23, f24, f25, ar5, ar6, ar7, ar8, ar9, ar10]) [] H → va_S (xA E) s.heap H locs → lv_has ls 7 [(0, .ref a), (4, .int x16), (5, .int x18)] → W p l e rm_X11_least s m args below meth c H locs 0 0 Q (F0 m 119 ls []) := by
            intro H locs ls hT hS hl
            refine lv_aload_n hx hb dX11_least_119 rfl (lv_at hl 0 rfl) ?_
            refine gX11_1 S hK hT ha kf_X11_9 dX11_least_120 (fun hk30 => ?_)
            refine lv_iload hx hb dX11_least_123 (lv_at hl 1 rfl) ?_
            refine lv_aload_n hx hb dX11_least_125 rfl (lv_at hl 0 rfl) ?_
            refine gX11_4 S hK hT ha kf_X11_21 dX11_least_126 (fun hk31 => ?_)
            refine lv_iload hx hb dX11_least_129 (lv_at hl 1 rfl) ?_
            refine al_0 S hK hT hk31 ar_31 (by decide) (z_X11_least_2 p0.toInt p1.toInt p2.toInt x12.toInt x14.toInt x16.toInt x2.toInt x6.toInt (aI ar0 (4 * (30 * p0.toInt + p1.toInt))) t1 (xbz b3) c4 t5 (xbz b7) c8 t11 t15 t17 (xr p0) (xr p1) (xr p2) (xr x12) (xr x14) (xr x16) (xr x2) (xr x6)) dX11_least_131 (fun x32 o33 => ?_)
            refine tst_0 S hK hT hS hk30 (at_30 (f := f22) rfl) (fun _ => bt_30 (Nat.le_of_ble_eq_true rfl)) (by decide) (by decide) xti_30 (z_X11_least_3 p0.toInt p1.toInt p2.toInt x12.toInt x14.toInt x16.toInt x2.toInt x6.toInt (aI ar0 (4 * (30 * p0.toInt + p1.toInt))) t1 (xbz b3) c4 t5 (xbz b7) c8 t11 t15 t17 (xr p0) (xr p1) (xr p2) (xr x12) (xr x14) (xr x16) (xr x2) (xr x6)) dX11_least_132 (fun f34 H locs hu35 hT hS => ?_)
            have hT : TW E K F (tl, [0, z1, z2, x20, x21, z5, z6, z7, z8, z9, z10, z11, z12, z13, z14, z15, z16, z17, z18, z19, z20], [f34, ar1, f23, f24, f25, ar5, ar6, ar7, ar8, ar9, ar10]) [] H := hT
            refine lv_iload hx hb dX11_least_133 (lv_at hl 2 rfl) ?_
            exact x_ri hx hb hr hlk hQ (Nat.le_of_ble_eq_true rfl) (Nat.le_of_ble_eq_true rfl) hS dX11_least_135 (0, x20, x21, f34, f23, f24, f25) ⟨_, rfl⟩ hT.nil
          refine xi_cgt (tgt := 119) hx hb (rfl : Int32.toInt x19 = x19.toInt) ((by decide) : Int32.toInt 99 = (99 : Int)) dX11_least_51 (by decide) (fun c36 => ?_) (fun c36 => ?_)
          · exact J119 _ _ _ hT.nil hS (lv_sub hl [0, 1, 2] rfl)
          · refine lv_iload hx hb dX11_least_54 (lv_at hl 2 rfl) ?_
            refine lv_ldc (v := (-2147483648)) hx hb S.2.2.2.1 (S.2.2.2.2 _ (List.mem_cons_of_mem _ kc_X11_57)) dX11_least_56 ?_
            refine xi_cne (tgt := 119) hx hb (rfl : Int32.toInt x18 = x18.toInt) ((by decide) : Int32.toInt (-2147483648) = (-2147483648 : Int)) dX11_least_58 (by decide) (fun c37 => ?_) (fun c37 => ?_)
            · exact J119 _ _ _ hT.nil hS (lv_sub hl [0, 1, 2] rfl)
            · refine lv_iload hx hb dX11_least_61 (lv_at hl 3 rfl) ?_
              refine lv_aload_n hx hb dX11_least_63 rfl (lv_at hl 0 rfl) ?_
              refine gX11_4 S hK hT ha kf_X11_21 dX11_least_64 (fun hk38 => ?_)
              refine lv_iload hx hb dX11_least_67 (lv_at hl 1 rfl) ?_
              refine al_0 S hK hT hk38 ar_31 (by decide) (z_X11_least_4 p0.toInt p1.toInt p2.toInt x12.toInt x14.toInt x16.toInt x2.toInt x6.toInt (aI ar0 (4 * (30 * p0.toInt + p1.toInt))) t1 (xbz b3) c4 t5 (xbz b7) c8 t11 t15 t17 (xr p0) (xr p1) (xr p2) (xr x12) (xr x14) (xr x16) (xr x2) (xr x6)) dX11_least_69 (fun x39 o40 => ?_)
              have J113 : ∀ (x41 : Int32) (x42 : Int32) (x43 : Int32) (f44 : Nat → Int32) (f45 : Nat → Int32) (f46 : Nat → Int32) (f47 : Nat → Int32) (H : Heap) (locs : List Loc) (ls : Array Slot), TW E K F (tl, [0, z1, z2, x42, x43, z5, z6, z7, z8, z9, z10, z11, z12, z13, z14, z15, z16, z17, z18, z19, z20], [f44, ar1, f45, f46, f47, ar5, ar6, ar7, ar8, ar9, ar10]) [] H → va_S (xA E) s.heap H locs → lv_has ls 7 [(0, .ref a), (4, .int x16), (5, .int x41), (6, .int x19)] → W p l e rm_X11_least s m args below meth c H locs 0 0 Q (F0 m 113 ls []) := by
                intro x41 x42 x43 f44 f45 f46 f47 H locs ls hT hS hl
                refine xi_iinc (n := 1) (lv' := fun z9 => [(6, .int z9), (0, .ref a), (4, .int x16), (5, .int x41)]) (k := 3) hx hb (rfl : Int32.toInt x19 = x19.toInt) (by decide) dX11_least_113 hl rfl (by decide) (fun _ => rfl) (fun x48 ls t49 hl => ?_)
                have hl : lv_has ls 7 [(6, .int x48), (0, .ref a), (4, .int x16), (5, .int x41)] := hl
                refine lv_goto (tgt := 47) hx hb dX11_least_116 (by decide) ?_
                exact ih29 x41 x48 x42 x43 f44 f45 f46 f47 _ _ _ (z_X11_least_5 x19.toInt x48.toInt N26 hf27 hm28 c36 t49 (xr x19) (xr x48)) (z_X11_least_6 x19.toInt x48.toInt N26 hf27 hm28 c36 t49 (xr x19) (xr x48)) hT.nil hS (lv_sub hl [1, 2, 3, 0] rfl)
              refine xi_ceq (tgt := 113) hx hb (rfl : Int32.toInt x19 = x19.toInt) (rfl : Int32.toInt x39 = x39.toInt) dX11_least_70 (by decide) (fun c50 => ?_) (fun c50 => ?_)
              · exact J113 x18 x20 x21 f22 f23 f24 f25 _ _ _ hT.nil hS (lv_sub hl [0, 1, 2, 3] rfl)
              · refine lv_aload_n hx hb dX11_least_73 rfl (lv_at hl 0 rfl) ?_
                refine gX11_1 S hK hT ha kf_X11_9 dX11_least_74 (fun hk51 => ?_)
                refine lv_iload hx hb dX11_least_77 (lv_at hl 1 rfl) ?_
                refine lv_iload hx hb dX11_least_79 (lv_at hl 3 rfl) ?_
                refine tst_0 S hK hT hS hk51 (at_30 (f := f22) rfl) (fun _ => bt_30 (Nat.le_of_ble_eq_true rfl)) (by decide) (by decide) xti_30 (z_X11_least_7 p0.toInt p1.toInt p2.toInt x12.toInt x14.toInt x16.toInt x2.toInt x6.toInt (aI ar0 (4 * (30 * p0.toInt + p1.toInt))) t1 (xbz b3) c4 t5 (xbz b7) c8 t11 t15 t17 (xr p0) (xr p1) (xr p2) (xr x12) (xr x14) (xr x16) (xr x2) (xr x6)) dX11_least_81 (fun f52 H locs hu53 hT hS => ?_)
                have hT : TW E K F (tl, [0, z1, z2, x20, x21, z5, z6, z7, z8, z9, z10, z11, z12, z13, z14, z15, z16, z17, z18, z19, z20], [f52, ar1, f23, f24, f25, ar5, ar6, ar7, ar8, ar9, ar10]) [] H := hT
                refine lv_aload_n hx hb dX11_least_82 rfl (lv_at hl 0 rfl) ?_
                refine lv_aload_n hx hb dX11_least_83 rfl (lv_at hl 0 rfl) ?_
                refine gX11_11 S hK hT ha kf_X11_36 dX11_least_84 (fun hk54 => ?_)
                refine lv_aload_n hx hb dX11_least_87 rfl (lv_at hl 0 rfl) ?_
                refine gX11_1 S hK hT ha kf_X11_9 dX11_least_88 (fun hk55 => ?_)
                refine lv_iconst (v := 0) hx hb dX11_least_91 (by decide) ?_
                refine x_cv0 (x_runV (b := a) (As := [.ref (F a 11), .ref (F a 1), .int 0]) (rest := []) S (c_X11_layStates l E K F tl 0 z1 z2 x20 x21 z5 z6 z7 z8 z9 z10 z11 z12 z13 z14 z15 z16 z17 z18 z19 z20 f52 ar1 f23 f24 f25 ar5 ar6 ar7 ar8 ar9 ar10 a (F a 11) (F a 1) 0 ha hk54 (XO.a hk55 (by decide)) hR) mv_X11_layStates km_X11_210 rfl rfl ⟨Nat.le_of_ble_eq_true rfl, Nat.le_of_ble_eq_true rfl⟩ (rc_13 hK hT ha) hK (fun _ => XP.blind) (fun U hU hW => XP.at hK hz hS hT hU hW) rfl hl.1 (Nat.le_of_ble_eq_true rfl) dX11_least_92 ⟨Nat.le_of_ble_eq_true rfl, Nat.le_of_ble_eq_true rfl⟩) hS ?_
                rintro _ H locs - hT hS
                refine lv_aload_n hx hb dX11_least_95 rfl (lv_at hl 0 rfl) ?_
                refine lv_iconst (v := 2) hx hb dX11_least_96 (by decide) ?_
                refine x_cl0 (x_runV (b := a) (As := [.int 2]) (rest := []) S (c_X11_asks l E K F tl 0 z1 z2 x20 x21 z5 z6 z7 z8 z9 z10 z11 z12 z13 z14 z15 z16 z17 z18 z19 z20 f52 ar1 f23 f24 f25 ar5 ar6 ar7 ar8 ar9 ar10 a 2 ha hR) mv_X11_asks km_X11_319 rfl rfl ⟨Nat.le_of_ble_eq_true rfl, Nat.le_of_ble_eq_true rfl⟩ (rc_13 hK hT ha) hK (fun _ => XP.blind) (fun U hU hW => XP.at hK hz hS hT hU hW) rfl hl.1 (Nat.le_of_ble_eq_true rfl) dX11_least_97 ⟨Nat.le_of_ble_eq_true rfl, Nat.le_of_ble_eq_true rfl⟩) hS ?_
                rintro _ ⟨u58, u59, f60, f61, f62⟩ H locs ⟨x64, rfl, t63⟩ hT hS
                have hT : TW E K F (tl, [0, z1, z2, u58, u59, z5, z6, z7, z8, z9, z10, z11, z12, z13, z14, z15, z16, z17, z18, z19, z20], [f52, ar1, f60, f61, f62, ar5, ar6, ar7, ar8, ar9, ar10]) [] H := hT
                have t63 : 0 ≤ u59.toInt ∧ u59.toInt ≤ 2388 ∧ u59.toInt ≤ (((fV ar1 f61 f62) : Nat) : Int) ∧ (x64.toInt = -1 ∨ (0 ≤ x64.toInt ∧ x64.toInt < u59.toInt)) := t63
                refine lv_iconst (v := (-1)) hx hb dX11_least_100 (by decide) ?_
                have J111 : ∀ (x66 : Int32) (H : Heap) (locs : List Loc) (ls : Array Slot), TW E K F (tl, [0, z1, z2, u58, u59, z5, z6, z7, z8, z9, z10, z11, z12, z13, z14, z15, z16, z17, z18, z19, z20], [f52, ar1, f60, f61, f62, ar5, ar6, ar7, ar8, ar9, ar10]) [] H → va_S (xA E) s.heap H locs → lv_has ls 7 [(0, .ref a), (4, .int x16), (6, .int x19)] → W p l e rm_X11_least s m args below meth c H locs 0 0 Q (F0 m 111 ls [.int x66]) := by
                  intro x66 H locs ls hT hS hl
                  refine lv_istore (lv' := [(5, .int x66), (0, .ref a), (4, .int x16), (6, .int x19)]) hx hb dX11_least_111 hl (by decide) rfl (fun ls hl => ?_)
                  exact J113 x66 u58 u59 f52 f60 f61 f62 _ _ _ hT.nil hS (lv_sub hl [1, 2, 0, 3] rfl)
                refine xi_cne (tgt := 109) hx hb (rfl : Int32.toInt x64 = x64.toInt) ((by decide) : Int32.toInt (-1) = (-1 : Int)) dX11_least_101 (by decide) (fun c67 => ?_) (fun c67 => ?_)
                · refine lv_ldc (v := (-2147483648)) hx hb S.2.2.2.1 (S.2.2.2.2 _ (List.mem_cons_of_mem _ kc_X11_57)) dX11_least_109 ?_
                  exact J111 (-2147483648) _ _ _ hT.nil hS (lv_sub hl [0, 1, 3] rfl)
                · refine lv_iload hx hb dX11_least_104 (lv_at hl 3 rfl) ?_
                  refine lv_goto (tgt := 111) hx hb dX11_least_106 (by decide) ?_
                  exact J111 x19 _ _ _ hT.nil hS (lv_sub hl [0, 1, 3] rfl)
      exact L47 4294967297 (-2147483648) (-99) z3 z4 ar0 ar2 ar3 ar4 _ _ _ (by decide) (by decide) hT.nil hS (lv_sub hl [3, 2, 1, 0] rfl)
    · refine lv_ldc (v := (-2147483648)) hx hb S.2.2.2.1 (S.2.2.2.2 _ (List.mem_cons_of_mem _ kc_X11_57)) dX11_least_21 ?_
      exact x_ri hx hb hr hlk hQ (Nat.le_of_ble_eq_true rfl) (Nat.le_of_ble_eq_true rfl) hS dX11_least_23 (0, z3, z4, ar0, ar2, ar3, ar4) ⟨_, rfl⟩ hT.nil

theorem z_X11_depth_1 (a0 : Int) (a1 : Int) (a2 : Int) (h0 : a1 = 0 ∨ (a1 = 1 ∧ 0 ≤ a0 ∧ a0 ≤ 11 ∧ 0 ≤ a2)) (h1 : a1 = 0 ∨ a1 = 1) (h2 : ¬ (a1 = 0)) (r0 : -2147483648 ≤ a0 ∧ a0 < 2147483648) (r1 : -2147483648 ≤ a1 ∧ a1 < 2147483648) : 0 ≤ a0 ∧ a0 ≤ 11 := by omega
theorem z_X11_depth_2 (a0 : Int) (a1 : Int) (a2 : Int) (a3 : Int) (h0 : a1 = 0 ∨ (a1 = 1 ∧ 0 ≤ a0 ∧ a0 ≤ 11 ∧ 0 ≤ a3)) (h1 : a1 = 0 ∨ a1 = 1) (h2 : ¬ (a1 = 0)) (h3 : a2 = a3) (r0 : -2147483648 ≤ a0 ∧ a0 < 2147483648) (r1 : -2147483648 ≤ a1 ∧ a1 < 2147483648) (r2 : -2147483648 ≤ a2 ∧ a2 < 2147483648) : 0 ≤ a0 ∧ a0 ≤ 11 := by omega
theorem z_X11_depth_3 (a0 : Int) (a1 : Int) (a2 : Int) (a3 : Int) (a4 : Int) (a5 : Int) (a6 : Int) (h0 : a1 = 0 ∨ (a1 = 1 ∧ 0 ≤ a0 ∧ a0 ≤ 11 ∧ 0 ≤ a3)) (h1 : a1 = 0 ∨ a1 = 1) (h2 : ¬ (a1 = 0)) (h3 : a2 = a3) (h4 : (-1 ≤ a3 ∧ a3 ≤ 5) ∧ (0 ≤ a4 ∧ a4 ≤ 2) ∧ (0 ≤ a5 ∧ a5 ≤ 2) ∧ (-1 ≤ a6 ∧ a6 ≤ 2) ∧ (a3 = 1 ∨ a3 = 3 ∨ a3 = 4 → 0 ≤ a6)) (h5 : ¬ (a2 ≠ (5 : Int))) (r0 : -2147483648 ≤ a0 ∧ a0 < 2147483648) (r1 : -2147483648 ≤ a1 ∧ a1 < 2147483648) (r2 : -2147483648 ≤ a2 ∧ a2 < 2147483648) : 0 ≤ a0 ∧ a0 ≤ 11 := by omega
theorem z_X11_depth_4 (a0 : Int) (h0 : (0 : Int) ≤ a0) (r0 : -2147483648 ≤ a0 ∧ a0 < 2147483648) : ¬ (2147483648 - a0 < ((0 : Nat) : Int)) := by omega
theorem z_X11_depth_5 (a0 : Int) (a1 : Int) (a2 : Int) (a3 : Int) (a4 : Int) (a5 : Int) (a6 : Int) (a7 : Int) (a8 : Int) (a9 : Int) (a10 : Int) (h0 : a4 = 0 ∨ (a4 = 1 ∧ 0 ≤ a0 ∧ a0 ≤ 11 ∧ 0 ≤ a7)) (h1 : a4 = 0 ∨ a4 = 1) (h2 : ¬ (a4 = 0)) (h3 : a5 = a7) (h4 : (-1 ≤ a7 ∧ a7 ≤ 5) ∧ (0 ≤ a8 ∧ a8 ≤ 2) ∧ (0 ≤ a9 ∧ a9 ≤ 2) ∧ (-1 ≤ a10 ∧ a10 ≤ 2) ∧ (a7 = 1 ∨ a7 = 3 ∨ a7 = 4 → 0 ≤ a10)) (h5 : ¬ (a5 ≠ (5 : Int))) (h6 : a2 = a8) (h7 : a3 = 0 ∨ (a3 = 1 ∧ 0 ≤ a2 ∧ a2 ≤ 2 ∧ 0 ≤ a1 ∧ a1 ≤ 29 ∧ a6 = 1)) (h8 : a3 = 0 ∨ a3 = 1) (h9 : a3 ≠ 0) (r0 : -2147483648 ≤ a0 ∧ a0 < 2147483648) (r1 : -2147483648 ≤ a1 ∧ a1 < 2147483648) (r2 : -2147483648 ≤ a2 ∧ a2 < 2147483648) (r3 : -2147483648 ≤ a3 ∧ a3 < 2147483648) (r4 : -2147483648 ≤ a4 ∧ a4 < 2147483648) (r5 : -2147483648 ≤ a5 ∧ a5 < 2147483648) : 0 ≤ a0 ∧ a0 ≤ 11 := by omega
theorem z_X11_depth_6 (a0 : Int) (a1 : Int) (a2 : Int) (a3 : Int) (a4 : Int) (a5 : Int) (a6 : Int) (a7 : Int) (a8 : Int) (a9 : Int) (a10 : Int) (a11 : Int) (a12 : Int) (a13 : Int) (a14 : Int) (h0 : a5 = 0 ∨ (a5 = 1 ∧ 0 ≤ a0 ∧ a0 ≤ 11 ∧ 0 ≤ a11)) (h1 : a5 = 0 ∨ a5 = 1) (h2 : ¬ (a5 = 0)) (h3 : a9 = a11) (h4 : (-1 ≤ a11 ∧ a11 ≤ 5) ∧ (0 ≤ a12 ∧ a12 ≤ 2) ∧ (0 ≤ a13 ∧ a13 ≤ 2) ∧ (-1 ≤ a14 ∧ a14 ≤ 2) ∧ (a11 = 1 ∨ a11 = 3 ∨ a11 = 4 → 0 ≤ a14)) (h5 : ¬ (a9 ≠ (5 : Int))) (h6 : a2 = a12) (h7 : a3 = 0 ∨ (a3 = 1 ∧ 0 ≤ a2 ∧ a2 ≤ 2 ∧ 0 ≤ a1 ∧ a1 ≤ 29 ∧ a10 = 1)) (h8 : a3 = 0 ∨ a3 = 1) (h9 : a3 ≠ 0) (h10 : 0 ≤ a4 ∧ a4 ≤ 29) (h11 : a6 = a12) (h12 : 0 ≤ a6 ∧ a6 ≤ 2 ∧ 0 ≤ a4 ∧ a4 ≤ 29 → a7 = 4 * (30 * a6 + a4)) (h13 : a8 = a7 + (1 : Int) ∨ a7 + (1 : Int) < -2147483648 ∨ 2147483648 ≤ a7 + (1 : Int)) (r0 : -2147483648 ≤ a0 ∧ a0 < 2147483648) (r1 : -2147483648 ≤ a1 ∧ a1 < 2147483648) (r2 : -2147483648 ≤ a2 ∧ a2 < 2147483648) (r3 : -2147483648 ≤ a3 ∧ a3 < 2147483648) (r4 : -2147483648 ≤ a4 ∧ a4 < 2147483648) (r5 : -2147483648 ≤ a5 ∧ a5 < 2147483648) (r6 : -2147483648 ≤ a6 ∧ a6 < 2147483648) (r7 : -2147483648 ≤ a7 ∧ a7 < 2147483648) (r8 : -2147483648 ≤ a8 ∧ a8 < 2147483648) (r9 : -2147483648 ≤ a9 ∧ a9 < 2147483648) : 0 ≤ a0 ∧ a0 ≤ 11 := by omega
theorem z_X11_depth_7 (a0 : Int) (a1 : Int) (a2 : Int) (a3 : Int) (a4 : Int) (a5 : Int) (a6 : Int) (a7 : Int) (a8 : Int) (a9 : Int) (a10 : Int) (a11 : Int) (a12 : Int) (a13 : Int) (a14 : Int) (a15 : Int) (a16 : Int) (h0 : a5 = 0 ∨ (a5 = 1 ∧ 0 ≤ a0 ∧ a0 ≤ 11 ∧ 0 ≤ a13)) (h1 : a5 = 0 ∨ a5 = 1) (h2 : ¬ (a5 = 0)) (h3 : a11 = a13) (h4 : (-1 ≤ a13 ∧ a13 ≤ 5) ∧ (0 ≤ a14 ∧ a14 ≤ 2) ∧ (0 ≤ a15 ∧ a15 ≤ 2) ∧ (-1 ≤ a16 ∧ a16 ≤ 2) ∧ (a13 = 1 ∨ a13 = 3 ∨ a13 = 4 → 0 ≤ a16)) (h5 : ¬ (a11 ≠ (5 : Int))) (h6 : a2 = a14) (h7 : a3 = 0 ∨ (a3 = 1 ∧ 0 ≤ a2 ∧ a2 ≤ 2 ∧ 0 ≤ a1 ∧ a1 ≤ 29 ∧ a12 = 1)) (h8 : a3 = 0 ∨ a3 = 1) (h9 : a3 ≠ 0) (h10 : 0 ≤ a4 ∧ a4 ≤ 29) (h11 : a6 = a14) (h12 : 0 ≤ a6 ∧ a6 ≤ 2 ∧ 0 ≤ a4 ∧ a4 ≤ 29 → a7 = 4 * (30 * a6 + a4)) (h13 : a8 = a7 + (1 : Int) ∨ a7 + (1 : Int) < -2147483648 ∨ 2147483648 ≤ a7 + (1 : Int)) (h14 : a9 = a15) (h15 : a10 = a8 + a9 ∨ a8 + a9 < -2147483648 ∨ 2147483648 ≤ a8 + a9) (r0 : -2147483648 ≤ a0 ∧ a0 < 2147483648) (r1 : -2147483648 ≤ a1 ∧ a1 < 2147483648) (r2 : -2147483648 ≤ a2 ∧ a2 < 2147483648) (r3 : -2147483648 ≤ a3 ∧ a3 < 2147483648) (r4 : -2147483648 ≤ a4 ∧ a4 < 2147483648) (r5 : -2147483648 ≤ a5 ∧ a5 < 2147483648) (r6 : -2147483648 ≤ a6 ∧ a6 < 2147483648) (r7 : -2147483648 ≤ a7 ∧ a7 < 2147483648) (r8 : -2147483648 ≤ a8 ∧ a8 < 2147483648) (r9 : -2147483648 ≤ a9 ∧ a9 < 2147483648) (r10 : -2147483648 ≤ a10 ∧ a10 < 2147483648) (r11 : -2147483648 ≤ a11 ∧ a11 < 2147483648) : 0 ≤ a10 ∧ a10 < ((360 : Nat) : Int) := by omega
theorem z_X11_depth_8 (a0 : Int) (a1 : Int) (a2 : Int) (a3 : Int) (a4 : Int) (a5 : Int) (a6 : Int) (a7 : Int) (a8 : Int) (a9 : Int) (a10 : Int) (a11 : Int) (a12 : Int) (a13 : Int) (a14 : Int) (a15 : Int) (a16 : Int) (h0 : a5 = 0 ∨ (a5 = 1 ∧ 0 ≤ a0 ∧ a0 ≤ 11 ∧ 0 ≤ a13)) (h1 : a5 = 0 ∨ a5 = 1) (h2 : ¬ (a5 = 0)) (h3 : a11 = a13) (h4 : (-1 ≤ a13 ∧ a13 ≤ 5) ∧ (0 ≤ a14 ∧ a14 ≤ 2) ∧ (0 ≤ a15 ∧ a15 ≤ 2) ∧ (-1 ≤ a16 ∧ a16 ≤ 2) ∧ (a13 = 1 ∨ a13 = 3 ∨ a13 = 4 → 0 ≤ a16)) (h5 : ¬ (a11 ≠ (5 : Int))) (h6 : a2 = a14) (h7 : a3 = 0 ∨ (a3 = 1 ∧ 0 ≤ a2 ∧ a2 ≤ 2 ∧ 0 ≤ a1 ∧ a1 ≤ 29 ∧ a12 = 1)) (h8 : a3 = 0 ∨ a3 = 1) (h9 : a3 ≠ 0) (h10 : 0 ≤ a4 ∧ a4 ≤ 29) (h11 : a6 = a14) (h12 : 0 ≤ a6 ∧ a6 ≤ 2 ∧ 0 ≤ a4 ∧ a4 ≤ 29 → a7 = 4 * (30 * a6 + a4)) (h13 : a8 = a7 + (1 : Int) ∨ a7 + (1 : Int) < -2147483648 ∨ 2147483648 ≤ a7 + (1 : Int)) (h14 : a9 = a15) (h15 : a10 = a8 + a9 ∨ a8 + a9 < -2147483648 ∨ 2147483648 ≤ a8 + a9) (r0 : -2147483648 ≤ a0 ∧ a0 < 2147483648) (r1 : -2147483648 ≤ a1 ∧ a1 < 2147483648) (r2 : -2147483648 ≤ a2 ∧ a2 < 2147483648) (r3 : -2147483648 ≤ a3 ∧ a3 < 2147483648) (r4 : -2147483648 ≤ a4 ∧ a4 < 2147483648) (r5 : -2147483648 ≤ a5 ∧ a5 < 2147483648) (r6 : -2147483648 ≤ a6 ∧ a6 < 2147483648) (r7 : -2147483648 ≤ a7 ∧ a7 < 2147483648) (r8 : -2147483648 ≤ a8 ∧ a8 < 2147483648) (r9 : -2147483648 ≤ a9 ∧ a9 < 2147483648) (r10 : -2147483648 ≤ a10 ∧ a10 < 2147483648) (r11 : -2147483648 ≤ a11 ∧ a11 < 2147483648) : 0 ≤ a0 ∧ a0 ≤ 11 := by omega
theorem z_X11_depth_9 (a0 : Int) (a1 : Int) (a2 : Int) (a3 : Int) (a4 : Int) (a5 : Int) (a6 : Int) (a7 : Int) (a8 : Int) (a9 : Int) (a10 : Int) (a11 : Int) (a12 : Int) (a13 : Int) (a14 : Int) (a15 : Int) (a16 : Int) (a17 : Int) (a18 : Int) (a19 : Int) (a20 : Int) (a21 : Int) (h0 : a5 = 0 ∨ (a5 = 1 ∧ 0 ≤ a0 ∧ a0 ≤ 11 ∧ 0 ≤ a18)) (h1 : a5 = 0 ∨ a5 = 1) (h2 : ¬ (a5 = 0)) (h3 : a14 = a18) (h4 : (-1 ≤ a18 ∧ a18 ≤ 5) ∧ (0 ≤ a19 ∧ a19 ≤ 2) ∧ (0 ≤ a20 ∧ a20 ≤ 2) ∧ (-1 ≤ a21 ∧ a21 ≤ 2) ∧ (a18 = 1 ∨ a18 = 3 ∨ a18 = 4 → 0 ≤ a21)) (h5 : ¬ (a14 ≠ (5 : Int))) (h6 : a2 = a19) (h7 : a3 = 0 ∨ (a3 = 1 ∧ 0 ≤ a2 ∧ a2 ≤ 2 ∧ 0 ≤ a1 ∧ a1 ≤ 29 ∧ a15 = 1)) (h8 : a3 = 0 ∨ a3 = 1) (h9 : a3 ≠ 0) (h10 : 0 ≤ a4 ∧ a4 ≤ 29) (h11 : a6 = a19) (h12 : 0 ≤ a6 ∧ a6 ≤ 2 ∧ 0 ≤ a4 ∧ a4 ≤ 29 → a7 = 4 * (30 * a6 + a4)) (h13 : a8 = a7 + (1 : Int) ∨ a7 + (1 : Int) < -2147483648 ∨ 2147483648 ≤ a7 + (1 : Int)) (h14 : a9 = a20) (h15 : a10 = a8 + a9 ∨ a8 + a9 < -2147483648 ∨ 2147483648 ≤ a8 + a9) (h16 : a11 = a17) (h17 : a12 = a19) (h18 : a13 = 0 ∨ (a13 = 1 ∧ 0 ≤ a12 ∧ a12 ≤ 2 ∧ 0 ≤ a11 ∧ a11 ≤ 29 ∧ a16 = 1)) (h19 : a13 = 0 ∨ a13 = 1) (h20 : a13 ≠ 0) (r0 : -2147483648 ≤ a0 ∧ a0 < 2147483648) (r1 : -2147483648 ≤ a1 ∧ a1 < 2147483648) (r2 : -2147483648 ≤ a2 ∧ a2 < 2147483648) (r3 : -2147483648 ≤ a3 ∧ a3 < 2147483648) (r4 : -2147483648 ≤ a4 ∧ a4 < 2147483648) (r5 : -2147483648 ≤ a5 ∧ a5 < 2147483648) (r6 : -2147483648 ≤ a6 ∧ a6 < 2147483648) (r7 : -2147483648 ≤ a7 ∧ a7 < 2147483648) (r8 : -2147483648 ≤ a8 ∧ a8 < 2147483648) (r9 : -2147483648 ≤ a9 ∧ a9 < 2147483648) (r10 : -2147483648 ≤ a10 ∧ a10 < 2147483648) (r11 : -2147483648 ≤ a11 ∧ a11 < 2147483648) (r12 : -2147483648 ≤ a12 ∧ a12 < 2147483648) (r13 : -2147483648 ≤ a13 ∧ a13 < 2147483648) (r14 : -2147483648 ≤ a14 ∧ a14 < 2147483648) : 0 ≤ a11 ∧ a11 ≤ 29 := by omega
theorem z_X11_depth_10 (a0 : Int) (a1 : Int) (a2 : Nat) (h0 : (0 : Int) ≤ a0) (h1 : 2147483648 - a0 < ((a2 + 1 : Nat) : Int)) (h2 : ¬ ((30 : Int) < a0)) (h3 : a1 = a0 + 1 ∨ a0 + 1 < -2147483648 ∨ 2147483648 ≤ a0 + 1) (r0 : -2147483648 ≤ a0 ∧ a0 < 2147483648) (r1 : -2147483648 ≤ a1 ∧ a1 < 2147483648) : (0 : Int) ≤ a1 := by omega
theorem z_X11_depth_11 (a0 : Int) (a1 : Int) (a2 : Nat) (h0 : (0 : Int) ≤ a0) (h1 : 2147483648 - a0 < ((a2 + 1 : Nat) : Int)) (h2 : ¬ ((30 : Int) < a0)) (h3 : a1 = a0 + 1 ∨ a0 + 1 < -2147483648 ∨ 2147483648 ≤ a0 + 1) (r0 : -2147483648 ≤ a0 ∧ a0 < 2147483648) (r1 : -2147483648 ≤ a1 ∧ a1 < 2147483648) : 2147483648 - a1 < ((a2 : Nat) : Int) := by omega
theorem z_X11_depth_12 (a0 : Int) (a1 : Int) (a2 : Int) (a3 : Int) (a4 : Int) (a5 : Int) (a6 : Int) (a7 : Int) (a8 : Int) (a9 : Int) (a10 : Int) (h0 : a4 = 0 ∨ (a4 = 1 ∧ 0 ≤ a0 ∧ a0 ≤ 11 ∧ 0 ≤ a7)) (h1 : a4 = 0 ∨ a4 = 1) (h2 : ¬ (a4 = 0)) (h3 : a5 = a7) (h4 : (-1 ≤ a7 ∧ a7 ≤ 5) ∧ (0 ≤ a8 ∧ a8 ≤ 2) ∧ (0 ≤ a9 ∧ a9 ≤ 2) ∧ (-1 ≤ a10 ∧ a10 ≤ 2) ∧ (a7 = 1 ∨ a7 = 3 ∨ a7 = 4 → 0 ≤ a10)) (h5 : ¬ (a5 ≠ (5 : Int))) (h6 : a2 = a8) (h7 : a3 = 0 ∨ (a3 = 1 ∧ 0 ≤ a2 ∧ a2 ≤ 2 ∧ 0 ≤ a1 ∧ a1 ≤ 29 ∧ a6 = 1)) (h8 : a3 = 0 ∨ a3 = 1) (h9 : a3 ≠ 0) (r0 : -2147483648 ≤ a0 ∧ a0 < 2147483648) (r1 : -2147483648 ≤ a1 ∧ a1 < 2147483648) (r2 : -2147483648 ≤ a2 ∧ a2 < 2147483648) (r3 : -2147483648 ≤ a3 ∧ a3 < 2147483648) (r4 : -2147483648 ≤ a4 ∧ a4 < 2147483648) (r5 : -2147483648 ≤ a5 ∧ a5 < 2147483648) : 0 ≤ a1 ∧ a1 ≤ 29 := by omega
abbrev rm_X11_depth : Room := { frames := 3, cells := 0, slots := 0, locals := 67 }
set_option maxHeartbeats 4000000 in
set_option maxRecDepth 100000 in
theorem c_X11_depth (l : Launch) (E : XE) (K : Nat → Nat) (F : Nat → Nat → Nat) (tl z0 z1 z2 z3 z4 z5 z6 z7 z8 z9 z10 z11 z12 z13 z14 z15 z16 z17 z18 z19 z20 : Int32) (ar0 ar1 ar2 ar3 ar4 ar5 ar6 ar7 ar8 ar9 ar10 : Nat → Int32) (a : Nat) (p0 : Int32) (p1 : Int32) (ha : K a = 13) (hR : RV ar1) : Met l yX11_depth (xw yX11_depth cX11_depth 6 (some .int)) rm_X11_depth (va_Pc [.ref a, .int p0, .int p1] (XP E K F (tl, [z0, z1, z2, z3, z4, z5, z6, z7, z8, z9, z10, z11, z12, z13, z14, z15, z16, z17, z18, z19, z20], [ar0, ar1, ar2, ar3, ar4, ar5, ar6, ar7, ar8, ar9, ar10]))) (XQ E (fun v (u : Int32) => ∃ r : Int32, v = .int r) (fun u H => TW E K F (tl, [u, z1, z2, z3, z4, z5, z6, z7, z8, z9, z10, z11, z12, z13, z14, z15, z16, z17, z18, z19, z20], [ar0, ar1, ar2, ar3, ar4, ar5, ar6, ar7, ar8, ar9, ar10]) [] H)) 0 0 (xA E) := by
  refine x_enter (by decide) (Nat.le_of_ble_eq_true rfl) ?_
  intro p e s m args below meth c Q S hr hlk hnm hQ hP ls hl
  obtain ⟨hz, hK, hT⟩ := hP
  obtain ⟨hx, hb, -, -, -⟩ := id S
  obtain ⟨H, hT, hS, hgo⟩ : ∃ H : Heap, TW E K F (tl, [z0, z1, z2, z3, z4, z5, z6, z7, z8, z9, z10, z11, z12, z13, z14, z15, z16, z17, z18, z19, z20], [ar0, ar1, ar2, ar3, ar4, ar5, ar6, ar7, ar8, ar9, ar10]) [] H ∧ va_S (xA E) s.heap H [] ∧ H = s.heap := ⟨_, hT, va_S.rf, rfl⟩
  rw [← hgo]
  have hl : lv_has ls 6 [(0, .ref a), (1, .int p0), (2, .int p1)] := hl
  refine lv_aload_n hx hb dX11_depth_0 rfl (lv_at hl 0 rfl) ?_
  refine lv_iconst (v := 0) hx hb dX11_depth_1 (by decide) ?_
  refine pX11_0 (kq := []) (v := 0) S hK hT hS ha kf_X11_134 (Nat.le_of_ble_eq_true rfl) dX11_depth_2 (fun _ h => by cases h) (fun H locs hT hS => ?_)
  have hT : TW E K F (tl, [0, z1, z2, z3, z4, z5, z6, z7, z8, z9, z10, z11, z12, z13, z14, z15, z16, z17, z18, z19, z20], [ar0, ar1, ar2, ar3, ar4, ar5, ar6, ar7, ar8, ar9, ar10]) [] H := hT
  refine lv_aload_n hx hb dX11_depth_5 rfl (lv_at hl 0 rfl) ?_
  refine lv_iload_n hx hb dX11_depth_6 rfl (lv_at hl 1 rfl) ?_
  refine x_clp (x_runV (b := a) (As := [.int p0]) (rest := []) S (c_X11_isRule l E K F tl 0 z1 z2 z3 z4 z5 z6 z7 z8 z9 z10 z11 z12 z13 z14 z15 z16 z17 z18 z19 z20 ar0 ar1 ar2 ar3 ar4 ar5 ar6 ar7 ar8 ar9 ar10 H a p0 ha hR) mv_X11_isRule km_X11_162 rfl rfl ⟨Nat.le_of_ble_eq_true rfl, Nat.le_of_ble_eq_true rfl⟩ (rc_13 hK hT ha) hK (fun _ => XPh.blind) (fun U hU hW => XPh.at hK hz hS hT hU hW) rfl hl.1 (Nat.le_of_ble_eq_true rfl) dX11_depth_7 ⟨Nat.le_of_ble_eq_true rfl, Nat.le_of_ble_eq_true rfl⟩) hS ?_
  rintro _ _ locs ⟨x2, rfl, b3, t1⟩ hS
  have t1 : x2.toInt = 0 ∨ (x2.toInt = 1 ∧ 0 ≤ p0.toInt ∧ p0.toInt ≤ 11 ∧ 0 ≤ (aI ar1 (10 * p0.toInt + (0 : Int)))) := t1
  refine xi_zeq (tgt := 37) hx hb (rfl : Int32.toInt x2 = x2.toInt) dX11_depth_10 (by decide) (fun c4 => ?_) (fun c4 => ?_)
  · refine lv_iconst (v := (-1)) hx hb dX11_depth_37 (by decide) ?_
    exact x_ri hx hb hr hlk hQ (Nat.le_of_ble_eq_true rfl) (Nat.le_of_ble_eq_true rfl) hS dX11_depth_38 (0) ⟨_, rfl⟩ hT.nil
  · refine lv_aload_n hx hb dX11_depth_13 rfl (lv_at hl 0 rfl) ?_
    refine lv_iload_n hx hb dX11_depth_14 rfl (lv_at hl 1 rfl) ?_
    refine lv_iconst (v := 0) hx hb dX11_depth_15 (by decide) ?_
    refine x_clp (x_runV (b := a) (As := [.int p0, .int 0]) (rest := []) S (c_X11_of l E K F tl 0 z1 z2 z3 z4 z5 z6 z7 z8 z9 z10 z11 z12 z13 z14 z15 z16 z17 z18 z19 z20 ar0 ar1 ar2 ar3 ar4 ar5 ar6 ar7 ar8 ar9 ar10 H a p0 0 ha (z_X11_depth_1 p0.toInt x2.toInt (aI ar1 (10 * p0.toInt + (0 : Int))) t1 (xbz b3) c4 (xr p0) (xr x2)) (by decide)) mv_X11_of km_X11_165 rfl rfl ⟨Nat.le_of_ble_eq_true rfl, Nat.le_of_ble_eq_true rfl⟩ (rc_13 hK hT ha) hK (fun _ => XPh.blind) (fun U hU hW => XPh.at hK hz hS hT hU hW) rfl hl.1 (Nat.le_of_ble_eq_true rfl) dX11_depth_16 ⟨Nat.le_of_ble_eq_true rfl, Nat.le_of_ble_eq_true rfl⟩) hS ?_
    rintro _ _ locs ⟨x6, rfl, t5⟩ hS
    have t5 : x6.toInt = (aI ar1 (10 * p0.toInt + (0 : Int))) := t5
    have v8 : (-1 ≤ (aI ar1 (10 * p0.toInt + (0 : Int))) ∧ (aI ar1 (10 * p0.toInt + (0 : Int))) ≤ 5) ∧ (0 ≤ (aI ar1 (10 * p0.toInt + (1 : Int))) ∧ (aI ar1 (10 * p0.toInt + (1 : Int))) ≤ 2) ∧ (0 ≤ (aI ar1 (10 * p0.toInt + (2 : Int))) ∧ (aI ar1 (10 * p0.toInt + (2 : Int))) ≤ 2) ∧ (-1 ≤ (aI ar1 (10 * p0.toInt + (3 : Int))) ∧ (aI ar1 (10 * p0.toInt + (3 : Int))) ≤ 2) ∧ ((aI ar1 (10 * p0.toInt + (0 : Int))) = 1 ∨ (aI ar1 (10 * p0.toInt + (0 : Int))) = 3 ∨ (aI ar1 (10 * p0.toInt + (0 : Int))) = 4 → 0 ≤ (aI ar1 (10 * p0.toInt + (3 : Int)))) := RV.row hR (z_X11_depth_2 p0.toInt x2.toInt x6.toInt (aI ar1 (10 * p0.toInt + (0 : Int))) t1 (xbz b3) c4 t5 (xr p0) (xr x2) (xr x6))
    refine lv_iconst (v := 5) hx hb dX11_depth_19 (by decide) ?_
    refine xi_cne (tgt := 37) hx hb (rfl : Int32.toInt x6 = x6.toInt) ((by decide) : Int32.toInt 5 = (5 : Int)) dX11_depth_20 (by decide) (fun c9 => ?_) (fun c9 => ?_)
    · refine lv_iconst (v := (-1)) hx hb dX11_depth_37 (by decide) ?_
      exact x_ri hx hb hr hlk hQ (Nat.le_of_ble_eq_true rfl) (Nat.le_of_ble_eq_true rfl) hS dX11_depth_38 (0) ⟨_, rfl⟩ hT.nil
    · refine lv_aload_n hx hb dX11_depth_23 rfl (lv_at hl 0 rfl) ?_
      refine lv_aload_n hx hb dX11_depth_24 rfl (lv_at hl 0 rfl) ?_
      refine lv_iload_n hx hb dX11_depth_25 rfl (lv_at hl 1 rfl) ?_
      refine lv_iconst (v := 1) hx hb dX11_depth_26 (by decide) ?_
      refine x_clp (x_runV (b := a) (As := [.int p0, .int 1]) (rest := [.ref a]) S (c_X11_of l E K F tl 0 z1 z2 z3 z4 z5 z6 z7 z8 z9 z10 z11 z12 z13 z14 z15 z16 z17 z18 z19 z20 ar0 ar1 ar2 ar3 ar4 ar5 ar6 ar7 ar8 ar9 ar10 H a p0 1 ha (z_X11_depth_3 p0.toInt x2.toInt x6.toInt (aI ar1 (10 * p0.toInt + (0 : Int))) (aI ar1 (10 * p0.toInt + (1 : Int))) (aI ar1 (10 * p0.toInt + (2 : Int))) (aI ar1 (10 * p0.toInt + (3 : Int))) t1 (xbz b3) c4 t5 v8 c9 (xr p0) (xr x2) (xr x6)) (by decide)) mv_X11_of km_X11_165 rfl rfl ⟨Nat.le_of_ble_eq_true rfl, Nat.le_of_ble_eq_true rfl⟩ (rc_13 hK hT ha) hK (fun _ => XPh.blind) (fun U hU hW => XPh.at hK hz hS hT hU hW) rfl hl.1 (Nat.le_of_ble_eq_true rfl) dX11_depth_27 ⟨Nat.le_of_ble_eq_true rfl, Nat.le_of_ble_eq_true rfl⟩) hS ?_
      rintro _ _ locs ⟨x11, rfl, t10⟩ hS
      have t10 : x11.toInt = (aI ar1 (10 * p0.toInt + (1 : Int))) := t10
      refine lv_iload_n hx hb dX11_depth_30 rfl (lv_at hl 2 rfl) ?_
      refine x_clp (x_runV (b := a) (As := [.int x11, .int p1]) (rest := []) S (c_X11_isRow l E K F tl 0 z1 z2 z3 z4 z5 z6 z7 z8 z9 z10 z11 z12 z13 z14 z15 z16 z17 z18 z19 z20 ar0 ar1 ar2 ar3 ar4 ar5 ar6 ar7 ar8 ar9 ar10 H a x11 p1 ha) mv_X11_isRow km_X11_346 rfl rfl ⟨Nat.le_of_ble_eq_true rfl, Nat.le_of_ble_eq_true rfl⟩ (rc_13 hK hT ha) hK (fun _ => XPh.blind) (fun U hU hW => XPh.at hK hz hS hT hU hW) rfl hl.1 (Nat.le_of_ble_eq_true rfl) dX11_depth_31 ⟨Nat.le_of_ble_eq_true rfl, Nat.le_of_ble_eq_true rfl⟩) hS ?_
      rintro _ _ locs ⟨x14, rfl, b15, t13⟩ hS
      have t13 : x14.toInt = 0 ∨ (x14.toInt = 1 ∧ 0 ≤ x11.toInt ∧ x11.toInt ≤ 2 ∧ 0 ≤ p1.toInt ∧ p1.toInt ≤ 29 ∧ (aI ar0 (4 * (30 * x11.toInt + p1.toInt))) = 1) := t13
      refine xi_zne (tgt := 39) hx hb (rfl : Int32.toInt x14 = x14.toInt) dX11_depth_34 (by decide) (fun c16 => ?_) (fun c16 => ?_)
      · refine lv_iconst (v := 0) hx hb dX11_depth_39 (by decide) ?_
        refine lv_istore_n (lv' := [(3, .int 0), (0, .ref a), (1, .int p0), (2, .int p1)]) hx hb dX11_depth_40 rfl hl (by decide) rfl (fun ls hl => ?_)
        refine lv_iload_n hx hb dX11_depth_41 rfl (lv_at hl 3 rfl) ?_
        refine lv_istore (lv' := [(4, .int p1), (3, .int 0), (0, .ref a), (1, .int p0), (2, .int p1)]) hx hb dX11_depth_42 hl (by decide) rfl (fun ls hl => ?_)
        have L44 : ∀ (N19 : Nat) (x17 : Int32) (x18 : Int32) (H : Heap) (locs : List Loc) (ls : Array Slot), 0 ≤ x18.toInt ∧ x18.toInt ≤ 29 → (0 : Int) ≤ x17.toInt → 2147483648 - x17.toInt < ((N19 : Nat) : Int) → TW E K F (tl, [0, z1, z2, z3, z4, z5, z6, z7, z8, z9, z10, z11, z12, z13, z14, z15, z16, z17, z18, z19, z20], [ar0, ar1, ar2, ar3, ar4, ar5, ar6, ar7, ar8, ar9, ar10]) [] H → va_S (xA E) s.heap H locs → lv_has ls 6 [(0, .ref a), (1, .int p0), (3, .int x17), (4, .int x18)] → W p l e rm_X11_depth s m args below meth c H locs 0 0 Q (F0 m 44 ls []) := by
          intro N19
          induction N19 with
          | zero =>
            intro x17 x18 H locs ls hf20 hf21 hm22
            exact absurd hm22 (z_X11_depth_4 x17.toInt hf21 (xr x17))
          | succ N19 ih23 =>
            intro x17 x18 H locs ls hf20 hf21 hm22 hT hS hl
            refine lv_iload_n hx hb dX11_depth_44 rfl (lv_at hl 2 rfl) ?_
            refine lv_bipush (v := 30) hx hb dX11_depth_45 (by decide) ?_
            refine xi_cgt (tgt := 104) hx hb (rfl : Int32.toInt x17 = x17.toInt) ((by decide) : Int32.toInt 30 = (30 : Int)) dX11_depth_47 (by decide) (fun c24 => ?_) (fun c24 => ?_)
            · refine lv_bipush (v := (-2)) hx hb dX11_depth_104 (by decide) ?_
              exact x_ri hx hb hr hlk hQ (Nat.le_of_ble_eq_true rfl) (Nat.le_of_ble_eq_true rfl) hS dX11_depth_106 (0) ⟨_, rfl⟩ hT.nil
            · refine lv_aload_n hx hb dX11_depth_50 rfl (lv_at hl 0 rfl) ?_
              refine gX11_1 S hK hT ha kf_X11_9 dX11_depth_51 (fun hk25 => ?_)
              refine lv_aload_n hx hb dX11_depth_54 rfl (lv_at hl 0 rfl) ?_
              refine lv_iload_n hx hb dX11_depth_55 rfl (lv_at hl 1 rfl) ?_
              refine lv_iconst (v := 1) hx hb dX11_depth_56 (by decide) ?_
              refine x_clp (x_runV (b := a) (As := [.int p0, .int 1]) (rest := [.ref (F a 1)]) S (c_X11_of l E K F tl 0 z1 z2 z3 z4 z5 z6 z7 z8 z9 z10 z11 z12 z13 z14 z15 z16 z17 z18 z19 z20 ar0 ar1 ar2 ar3 ar4 ar5 ar6 ar7 ar8 ar9 ar10 H a p0 1 ha (z_X11_depth_5 p0.toInt p1.toInt x11.toInt x14.toInt x2.toInt x6.toInt (aI ar0 (4 * (30 * x11.toInt + p1.toInt))) (aI ar1 (10 * p0.toInt + (0 : Int))) (aI ar1 (10 * p0.toInt + (1 : Int))) (aI ar1 (10 * p0.toInt + (2 : Int))) (aI ar1 (10 * p0.toInt + (3 : Int))) t1 (xbz b3) c4 t5 v8 c9 t10 t13 (xbz b15) c16 (xr p0) (xr p1) (xr x11) (xr x14) (xr x2) (xr x6)) (by decide)) mv_X11_of km_X11_165 rfl rfl ⟨Nat.le_of_ble_eq_true rfl, Nat.le_of_ble_eq_true rfl⟩ (rc_13 hK hT ha) hK (fun _ => XPh.blind) (fun U hU hW => XPh.at hK hz hS hT hU hW) rfl hl.1 (Nat.le_of_ble_eq_true rfl) dX11_depth_57 ⟨Nat.le_of_ble_eq_true rfl, Nat.le_of_ble_eq_true rfl⟩) hS ?_
              rintro _ _ locs ⟨x27, rfl, t26⟩ hS
              have t26 : x27.toInt = (aI ar1 (10 * p0.toInt + (1 : Int))) := t26
              refine lv_iload hx hb dX11_depth_60 (lv_at hl 3 rfl) ?_
              refine x_clp (x_runS (As := [.int x27, .int x18]) (rest := [.ref (F a 1)]) S (c_X11_at l E K F tl 0 z1 z2 z3 z4 z5 z6 z7 z8 z9 z10 z11 z12 z13 z14 z15 z16 z17 z18 z19 z20 ar0 ar1 ar2 ar3 ar4 ar5 ar6 ar7 ar8 ar9 ar10 H x27 x18) ms_X11_at km_X11_156 rfl rfl ⟨Nat.le_of_ble_eq_true rfl, Nat.le_of_ble_eq_true rfl⟩ hK (fun _ => XPh.blind) (fun U hU hW => XPh.at hK hz hS hT hU hW) rfl hl.1 (Nat.le_of_ble_eq_true rfl) dX11_depth_62 ⟨Nat.le_of_ble_eq_true rfl, Nat.le_of_ble_eq_true rfl⟩) hS ?_
              rintro _ _ locs ⟨x30, rfl, t29⟩ hS
              have t29 : 0 ≤ x27.toInt ∧ x27.toInt ≤ 2 ∧ 0 ≤ x18.toInt ∧ x18.toInt ≤ 29 → x30.toInt = 4 * (30 * x27.toInt + x18.toInt) := t29
              refine lv_iconst (v := 1) hx hb dX11_depth_65 (by decide) ?_
              refine xi_iadd hx hb (rfl : Int32.toInt x30 = x30.toInt) ((by decide) : Int32.toInt 1 = (1 : Int)) dX11_depth_66 (fun x32 t33 => ?_)
              refine lv_aload_n hx hb dX11_depth_67 rfl (lv_at hl 0 rfl) ?_
              refine lv_iload_n hx hb dX11_depth_68 rfl (lv_at hl 1 rfl) ?_
              refine lv_iconst (v := 2) hx hb dX11_depth_69 (by decide) ?_
              refine x_clp (x_runV (b := a) (As := [.int p0, .int 2]) (rest := [.int x32, .ref (F a 1)]) S (c_X11_of l E K F tl 0 z1 z2 z3 z4 z5 z6 z7 z8 z9 z10 z11 z12 z13 z14 z15 z16 z17 z18 z19 z20 ar0 ar1 ar2 ar3 ar4 ar5 ar6 ar7 ar8 ar9 ar10 H a p0 2 ha (z_X11_depth_6 p0.toInt p1.toInt x11.toInt x14.toInt x18.toInt x2.toInt x27.toInt x30.toInt x32.toInt x6.toInt (aI ar0 (4 * (30 * x11.toInt + p1.toInt))) (aI ar1 (10 * p0.toInt + (0 : Int))) (aI ar1 (10 * p0.toInt + (1 : Int))) (aI ar1 (10 * p0.toInt + (2 : Int))) (aI ar1 (10 * p0.toInt + (3 : Int))) t1 (xbz b3) c4 t5 v8 c9 t10 t13 (xbz b15) c16 hf20 t26 t29 t33 (xr p0) (xr p1) (xr x11) (xr x14) (xr x18) (xr x2) (xr x27) (xr x30) (xr x32) (xr x6)) (by decide)) mv_X11_of km_X11_165 rfl rfl ⟨Nat.le_of_ble_eq_true rfl, Nat.le_of_ble_eq_true rfl⟩ (rc_13 hK hT ha) hK (fun _ => XPh.blind) (fun U hU hW => XPh.at hK hz hS hT hU hW) rfl hl.1 (Nat.le_of_ble_eq_true rfl) dX11_depth_70 ⟨Nat.le_of_ble_eq_true rfl, Nat.le_of_ble_eq_true rfl⟩) hS ?_
              rintro _ _ locs ⟨x35, rfl, t34⟩ hS
              have t34 : x35.toInt = (aI ar1 (10 * p0.toInt + (2 : Int))) := t34
              refine xi_iadd hx hb (rfl : Int32.toInt x32 = x32.toInt) (rfl : Int32.toInt x35 = x35.toInt) dX11_depth_73 (fun x37 t38 => ?_)
              refine tld_0 S hK hT hk25 (at_30 (f := ar0) rfl) (by decide) (z_X11_depth_7 p0.toInt p1.toInt x11.toInt x14.toInt x18.toInt x2.toInt x27.toInt x30.toInt x32.toInt x35.toInt x37.toInt x6.toInt (aI ar0 (4 * (30 * x11.toInt + p1.toInt))) (aI ar1 (10 * p0.toInt + (0 : Int))) (aI ar1 (10 * p0.toInt + (1 : Int))) (aI ar1 (10 * p0.toInt + (2 : Int))) (aI ar1 (10 * p0.toInt + (3 : Int))) t1 (xbz b3) c4 t5 v8 c9 t10 t13 (xbz b15) c16 hf20 t26 t29 t33 t34 t38 (xr p0) (xr p1) (xr x11) (xr x14) (xr x18) (xr x2) (xr x27) (xr x30) (xr x32) (xr x35) (xr x37) (xr x6)) dX11_depth_74 (fun x39 w40 o41 => ?_)
              refine lv_istore (lv' := [(5, .int x39), (0, .ref a), (1, .int p0), (3, .int x17), (4, .int x18)]) hx hb dX11_depth_75 hl (by decide) rfl (fun ls hl => ?_)
              refine lv_aload_n hx hb dX11_depth_77 rfl (lv_at hl 1 rfl) ?_
              refine lv_aload_n hx hb dX11_depth_78 rfl (lv_at hl 1 rfl) ?_
              refine lv_iload_n hx hb dX11_depth_79 rfl (lv_at hl 2 rfl) ?_
              refine lv_iconst (v := 1) hx hb dX11_depth_80 (by decide) ?_
              refine x_clp (x_runV (b := a) (As := [.int p0, .int 1]) (rest := [.ref a]) S (c_X11_of l E K F tl 0 z1 z2 z3 z4 z5 z6 z7 z8 z9 z10 z11 z12 z13 z14 z15 z16 z17 z18 z19 z20 ar0 ar1 ar2 ar3 ar4 ar5 ar6 ar7 ar8 ar9 ar10 H a p0 1 ha (z_X11_depth_8 p0.toInt p1.toInt x11.toInt x14.toInt x18.toInt x2.toInt x27.toInt x30.toInt x32.toInt x35.toInt x37.toInt x6.toInt (aI ar0 (4 * (30 * x11.toInt + p1.toInt))) (aI ar1 (10 * p0.toInt + (0 : Int))) (aI ar1 (10 * p0.toInt + (1 : Int))) (aI ar1 (10 * p0.toInt + (2 : Int))) (aI ar1 (10 * p0.toInt + (3 : Int))) t1 (xbz b3) c4 t5 v8 c9 t10 t13 (xbz b15) c16 hf20 t26 t29 t33 t34 t38 (xr p0) (xr p1) (xr x11) (xr x14) (xr x18) (xr x2) (xr x27) (xr x30) (xr x32) (xr x35) (xr x37) (xr x6)) (by decide)) mv_X11_of km_X11_165 rfl rfl ⟨Nat.le_of_ble_eq_true rfl, Nat.le_of_ble_eq_true rfl⟩ (rc_13 hK hT ha) hK (fun _ => XPh.blind) (fun U hU hW => XPh.at hK hz hS hT hU hW) rfl hl.1 (Nat.le_of_ble_eq_true rfl) dX11_depth_81 ⟨Nat.le_of_ble_eq_true rfl, Nat.le_of_ble_eq_true rfl⟩) hS ?_
              rintro _ _ locs ⟨x44, rfl, t43⟩ hS
              have t43 : x44.toInt = (aI ar1 (10 * p0.toInt + (1 : Int))) := t43
              refine lv_iload hx hb dX11_depth_84 (lv_at hl 0 rfl) ?_
              refine x_clp (x_runV (b := a) (As := [.int x44, .int x39]) (rest := []) S (c_X11_isRow l E K F tl 0 z1 z2 z3 z4 z5 z6 z7 z8 z9 z10 z11 z12 z13 z14 z15 z16 z17 z18 z19 z20 ar0 ar1 ar2 ar3 ar4 ar5 ar6 ar7 ar8 ar9 ar10 H a x44 x39 ha) mv_X11_isRow km_X11_346 rfl rfl ⟨Nat.le_of_ble_eq_true rfl, Nat.le_of_ble_eq_true rfl⟩ (rc_13 hK hT ha) hK (fun _ => XPh.blind) (fun U hU hW => XPh.at hK hz hS hT hU hW) rfl hl.1 (Nat.le_of_ble_eq_true rfl) dX11_depth_86 ⟨Nat.le_of_ble_eq_true rfl, Nat.le_of_ble_eq_true rfl⟩) hS ?_
              rintro _ _ locs ⟨x47, rfl, b48, t46⟩ hS
              have t46 : x47.toInt = 0 ∨ (x47.toInt = 1 ∧ 0 ≤ x44.toInt ∧ x44.toInt ≤ 2 ∧ 0 ≤ x39.toInt ∧ x39.toInt ≤ 29 ∧ (aI ar0 (4 * (30 * x44.toInt + x39.toInt))) = 1) := t46
              refine xi_zne (tgt := 94) hx hb (rfl : Int32.toInt x47 = x47.toInt) dX11_depth_89 (by decide) (fun c49 => ?_) (fun c49 => ?_)
              · refine xi_iinc (n := 1) (lv' := fun z9 => [(3, .int z9), (5, .int x39), (0, .ref a), (1, .int p0), (4, .int x18)]) (k := 3) hx hb (rfl : Int32.toInt x17 = x17.toInt) (by decide) dX11_depth_94 hl rfl (by decide) (fun _ => rfl) (fun x50 ls t51 hl => ?_)
                have hl : lv_has ls 6 [(3, .int x50), (5, .int x39), (0, .ref a), (1, .int p0), (4, .int x18)] := hl
                refine lv_iload hx hb dX11_depth_97 (lv_at hl 1 rfl) ?_
                refine lv_istore (lv' := [(4, .int x39), (3, .int x50), (5, .int x39), (0, .ref a), (1, .int p0)]) hx hb dX11_depth_99 hl (by decide) rfl (fun ls hl => ?_)
                refine lv_goto (tgt := 44) hx hb dX11_depth_101 (by decide) ?_
                exact ih23 x50 x39 _ _ _ (z_X11_depth_9 p0.toInt p1.toInt x11.toInt x14.toInt x18.toInt x2.toInt x27.toInt x30.toInt x32.toInt x35.toInt x37.toInt x39.toInt x44.toInt x47.toInt x6.toInt (aI ar0 (4 * (30 * x11.toInt + p1.toInt))) (aI ar0 (4 * (30 * x44.toInt + x39.toInt))) (aI ar0 x37.toInt) (aI ar1 (10 * p0.toInt + (0 : Int))) (aI ar1 (10 * p0.toInt + (1 : Int))) (aI ar1 (10 * p0.toInt + (2 : Int))) (aI ar1 (10 * p0.toInt + (3 : Int))) t1 (xbz b3) c4 t5 v8 c9 t10 t13 (xbz b15) c16 hf20 t26 t29 t33 t34 t38 w40 t43 t46 (xbz b48) c49 (xr p0) (xr p1) (xr x11) (xr x14) (xr x18) (xr x2) (xr x27) (xr x30) (xr x32) (xr x35) (xr x37) (xr x39) (xr x44) (xr x47) (xr x6)) (z_X11_depth_10 x17.toInt x50.toInt N19 hf21 hm22 c24 t51 (xr x17) (xr x50)) (z_X11_depth_11 x17.toInt x50.toInt N19 hf21 hm22 c24 t51 (xr x17) (xr x50)) hT.nil hS (lv_sub hl [3, 4, 1, 0] rfl)
              · refine lv_iload_n hx hb dX11_depth_92 rfl (lv_at hl 3 rfl) ?_
                exact x_ri hx hb hr hlk hQ (Nat.le_of_ble_eq_true rfl) (Nat.le_of_ble_eq_true rfl) hS dX11_depth_93 (0) ⟨_, rfl⟩ hT.nil
        exact L44 4294967297 0 p1 _ _ _ (z_X11_depth_12 p0.toInt p1.toInt x11.toInt x14.toInt x2.toInt x6.toInt (aI ar0 (4 * (30 * x11.toInt + p1.toInt))) (aI ar1 (10 * p0.toInt + (0 : Int))) (aI ar1 (10 * p0.toInt + (1 : Int))) (aI ar1 (10 * p0.toInt + (2 : Int))) (aI ar1 (10 * p0.toInt + (3 : Int))) t1 (xbz b3) c4 t5 v8 c9 t10 t13 (xbz b15) c16 (xr p0) (xr p1) (xr x11) (xr x14) (xr x2) (xr x6)) (by decide) (by decide) hT.nil hS (lv_sub hl [2, 3, 1, 0] rfl)
      · refine lv_iconst (v := (-1)) hx hb dX11_depth_37 (by decide) ?_
        exact x_ri hx hb hr hlk hQ (Nat.le_of_ble_eq_true rfl) (Nat.le_of_ble_eq_true rfl) hS dX11_depth_38 (0) ⟨_, rfl⟩ hT.nil

theorem z_X11_since_1 (a0 : Int) (a1 : Int) (h0 : (a1 = 1 ∧ (0 : Int) ≤ a0 ∧ a0 ≤ (6 : Int)) ∨ (a1 = 0 ∧ (a0 < (0 : Int) ∨ (6 : Int) < a0))) (h1 : a1 ≠ 0) (h2 : a0 ≠ (6 : Int)) (r0 : -2147483648 ≤ a0 ∧ a0 < 2147483648) (r1 : -2147483648 ≤ a1 ∧ a1 < 2147483648) : 0 ≤ a0 ∧ a0 < ((6 : Nat) : Int) := by omega
abbrev rm_X11_since : Room := { frames := 1, cells := 0, slots := 0, locals := 25 }
set_option maxHeartbeats 4000000 in
set_option maxRecDepth 100000 in
theorem c_X11_since (l : Launch) (E : XE) (K : Nat → Nat) (F : Nat → Nat → Nat) (tl z0 z1 z2 z3 z4 z5 z6 z7 z8 z9 z10 z11 z12 z13 z14 z15 z16 z17 z18 z19 z20 : Int32) (ar0 ar1 ar2 ar3 ar4 ar5 ar6 ar7 ar8 ar9 ar10 : Nat → Int32) (a : Nat) (p0 : Int32) (ha : K a = 13) : Met l yX11_since (xw yX11_since cX11_since 2 (some .int)) rm_X11_since (va_Pc [.ref a, .int p0] (XP E K F (tl, [z0, z1, z2, z3, z4, z5, z6, z7, z8, z9, z10, z11, z12, z13, z14, z15, z16, z17, z18, z19, z20], [ar0, ar1, ar2, ar3, ar4, ar5, ar6, ar7, ar8, ar9, ar10]))) (XQ E (fun v (u : Int32) => ∃ r : Int32, v = .int r) (fun u H => TW E K F (tl, [u, z1, z2, z3, z4, z5, z6, z7, z8, z9, z10, z11, z12, z13, z14, z15, z16, z17, z18, z19, z20], [ar0, ar1, ar2, ar3, ar4, ar5, ar6, ar7, ar8, ar9, ar10]) [] H)) 0 0 (xA E) := by
  refine x_enter (by decide) (Nat.le_of_ble_eq_true rfl) ?_
  intro p e s m args below meth c Q S hr hlk hnm hQ hP ls hl
  obtain ⟨hz, hK, hT⟩ := hP
  obtain ⟨hx, hb, -, -, -⟩ := id S
  obtain ⟨H, hT, hS, hgo⟩ : ∃ H : Heap, TW E K F (tl, [z0, z1, z2, z3, z4, z5, z6, z7, z8, z9, z10, z11, z12, z13, z14, z15, z16, z17, z18, z19, z20], [ar0, ar1, ar2, ar3, ar4, ar5, ar6, ar7, ar8, ar9, ar10]) [] H ∧ va_S (xA E) s.heap H [] ∧ H = s.heap := ⟨_, hT, va_S.rf, rfl⟩
  rw [← hgo]
  have hl : lv_has ls 2 [(0, .ref a), (1, .int p0)] := hl
  refine lv_aload_n hx hb dX11_since_0 rfl (lv_at hl 0 rfl) ?_
  refine lv_iconst (v := 0) hx hb dX11_since_1 (by decide) ?_
  refine pX11_0 (kq := []) (v := 0) S hK hT hS ha kf_X11_134 (Nat.le_of_ble_eq_true rfl) dX11_since_2 (fun _ h => by cases h) (fun H locs hT hS => ?_)
  have hT : TW E K F (tl, [0, z1, z2, z3, z4, z5, z6, z7, z8, z9, z10, z11, z12, z13, z14, z15, z16, z17, z18, z19, z20], [ar0, ar1, ar2, ar3, ar4, ar5, ar6, ar7, ar8, ar9, ar10]) [] H := hT
  refine lv_aload_n hx hb dX11_since_5 rfl (lv_at hl 0 rfl) ?_
  refine gX11_6 S hK hT ha kf_X11_206 dX11_since_6 (v := z1) rfl ?_
  have J24 : ∀ (H : Heap) (locs : List Loc) (ls : Array Slot), TW E K F (tl, [0, z1, z2, z3, z4, z5, z6, z7, z8, z9, z10, z11, z12, z13, z14, z15, z16, z17, z18, z19, z20], [ar0, ar1, ar2, ar3, ar4, ar5, ar6, ar7, ar8, ar9, ar10]) [] H → va_S (xA E) s.heap H locs → lv_has ls 2 [] → W p l e rm_X11_since s m args below meth c H locs 0 0 Q (F0 m 24 ls []) := by
    intro H locs ls hT hS hl
    refine lv_iconst (v := (-1)) hx hb dX11_since_24 (by decide) ?_
    refine lv_goto (tgt := 47) hx hb dX11_since_25 (by decide) ?_
    exact x_ri hx hb hr hlk hQ (Nat.le_of_ble_eq_true rfl) (Nat.le_of_ble_eq_true rfl) hS dX11_since_47 (0) ⟨_, rfl⟩ hT.nil
  refine xi_zeq (tgt := 24) hx hb (rfl : Int32.toInt z1 = z1.toInt) dX11_since_9 (by decide) (fun c1 => ?_) (fun c1 => ?_)
  · exact J24 _ _ _ hT.nil hS (lv_sub hl [] rfl)
  · refine lv_iload_n hx hb dX11_since_12 rfl (lv_at hl 1 rfl) ?_
    refine lv_i2l (v := p0.toInt64) hx hb dX11_since_13 rfl ?_
    refine lv_lconst (v := (0 : Int64)) hx hb dX11_since_14 (by decide) ?_
    refine lv_ldc2 (v := 6) hx hb S.2.2.2.1 (S.2.2.2.2 _ (List.mem_cons_of_mem _ kc_X11_396)) dX11_since_15 ?_
    refine x_clp (x_runS (As := [.long p0.toInt64, .long (0 : Int64), .long (6 : Int64)]) (rest := []) S (c_X11_in l E K F tl 0 z1 z2 z3 z4 z5 z6 z7 z8 z9 z10 z11 z12 z13 z14 z15 z16 z17 z18 z19 z20 ar0 ar1 ar2 ar3 ar4 ar5 ar6 ar7 ar8 ar9 ar10 H p0.toInt64 (0 : Int64) (6 : Int64) p0.toInt (0 : Int) (6 : Int) (xl_i2l (rfl : Int32.toInt p0 = p0.toInt)) (by decide) (by decide)) ms_X11_in km_X11_139 rfl rfl ⟨Nat.le_of_ble_eq_true rfl, Nat.le_of_ble_eq_true rfl⟩ hK (fun _ => XPh.blind) (fun U hU hW => XPh.at hK hz hS hT hU hW) rfl hl.1 (Nat.le_of_ble_eq_true rfl) dX11_since_18 ⟨Nat.le_of_ble_eq_true rfl, Nat.le_of_ble_eq_true rfl⟩) hS ?_
    rintro _ _ locs ⟨x2, rfl, b3, t4⟩ hS
    have t4 : (x2.toInt = 1 ∧ (0 : Int) ≤ p0.toInt ∧ p0.toInt ≤ (6 : Int)) ∨ (x2.toInt = 0 ∧ (p0.toInt < (0 : Int) ∨ (6 : Int) < p0.toInt)) := t4
    refine xi_zne (tgt := 28) hx hb (rfl : Int32.toInt x2 = x2.toInt) dX11_since_21 (by decide) (fun c5 => ?_) (fun c5 => ?_)
    · refine lv_iload_n hx hb dX11_since_28 rfl (lv_at hl 1 rfl) ?_
      refine lv_bipush (v := 6) hx hb dX11_since_29 (by decide) ?_
      refine xi_cne (tgt := 41) hx hb (rfl : Int32.toInt p0 = p0.toInt) ((by decide) : Int32.toInt 6 = (6 : Int)) dX11_since_31 (by decide) (fun c6 => ?_) (fun c6 => ?_)
      · refine lv_aload_n hx hb dX11_since_41 rfl (lv_at hl 0 rfl) ?_
        refine gX11_8 S hK hT ha kf_X11_27 dX11_since_42 (fun hk7 => ?_)
        refine lv_iload_n hx hb dX11_since_45 rfl (lv_at hl 1 rfl) ?_
        refine al_0 S hK hT hk7 ar_35 (by decide) (z_X11_since_1 p0.toInt x2.toInt t4 c5 c6 (xr p0) (xr x2)) dX11_since_46 (fun x8 o9 => ?_)
        exact x_ri hx hb hr hlk hQ (Nat.le_of_ble_eq_true rfl) (Nat.le_of_ble_eq_true rfl) hS dX11_since_47 (0) ⟨_, rfl⟩ hT.nil
      · refine lv_aload_n hx hb dX11_since_34 rfl (lv_at hl 0 rfl) ?_
        refine gX11_7 S hK hT ha kf_X11_373 dX11_since_35 (v := z2) rfl ?_
        refine lv_goto (tgt := 47) hx hb dX11_since_38 (by decide) ?_
        exact x_ri hx hb hr hlk hQ (Nat.le_of_ble_eq_true rfl) (Nat.le_of_ble_eq_true rfl) hS dX11_since_47 (0) ⟨_, rfl⟩ hT.nil
    · exact J24 _ _ _ hT.nil hS (lv_sub hl [] rfl)

theorem z_X11_lateMany_1 (a0 : Int) (h0 : (0 : Int) ≤ a0) (r0 : -2147483648 ≤ a0 ∧ a0 < 2147483648) : ¬ (2147483648 - a0 < ((0 : Nat) : Int)) := by omega
theorem z_X11_lateMany_2 (a0 : Int) (a1 : Int) (a2 : Int) (a3 : Nat) (a4 : Int) (h0 : (0 : Int) ≤ a1) (h1 : 2147483648 - a1 < ((a3 + 1 : Nat) : Int)) (h2 : ¬ ((12 : Int) ≤ a1)) (h3 : a2 = 0 ∨ (a2 = 1 ∧ 0 ≤ a1 ∧ a1 ≤ 11 ∧ 0 ≤ a4)) (h4 : a2 = 0 ∨ a2 = 1) (h5 : a0 = a1 + 1 ∨ a1 + 1 < -2147483648 ∨ 2147483648 ≤ a1 + 1) (r0 : -2147483648 ≤ a0 ∧ a0 < 2147483648) (r1 : -2147483648 ≤ a1 ∧ a1 < 2147483648) (r2 : -2147483648 ≤ a2 ∧ a2 < 2147483648) : (0 : Int) ≤ a0 := by omega
theorem z_X11_lateMany_3 (a0 : Int) (a1 : Int) (a2 : Int) (a3 : Nat) (a4 : Int) (h0 : (0 : Int) ≤ a1) (h1 : 2147483648 - a1 < ((a3 + 1 : Nat) : Int)) (h2 : ¬ ((12 : Int) ≤ a1)) (h3 : a2 = 0 ∨ (a2 = 1 ∧ 0 ≤ a1 ∧ a1 ≤ 11 ∧ 0 ≤ a4)) (h4 : a2 = 0 ∨ a2 = 1) (h5 : a0 = a1 + 1 ∨ a1 + 1 < -2147483648 ∨ 2147483648 ≤ a1 + 1) (r0 : -2147483648 ≤ a0 ∧ a0 < 2147483648) (r1 : -2147483648 ≤ a1 ∧ a1 < 2147483648) (r2 : -2147483648 ≤ a2 ∧ a2 < 2147483648) : 2147483648 - a0 < ((a3 : Nat) : Int) := by omega
theorem z_X11_lateMany_4 (a0 : Int) (a1 : Int) (a2 : Nat) (a3 : Int) (h0 : (0 : Int) ≤ a0) (h1 : 2147483648 - a0 < ((a2 + 1 : Nat) : Int)) (h2 : ¬ ((12 : Int) ≤ a0)) (h3 : a1 = 0 ∨ (a1 = 1 ∧ 0 ≤ a0 ∧ a0 ≤ 11 ∧ 0 ≤ a3)) (h4 : a1 = 0 ∨ a1 = 1) (h5 : ¬ (a1 = 0)) (r0 : -2147483648 ≤ a0 ∧ a0 < 2147483648) (r1 : -2147483648 ≤ a1 ∧ a1 < 2147483648) : 0 ≤ a0 ∧ a0 ≤ 11 := by omega
theorem z_X11_lateMany_5 (a0 : Int) (a1 : Int) (a2 : Nat) (a3 : Int) (h0 : (0 : Int) ≤ a0) (h1 : 2147483648 - a0 < ((a2 + 1 : Nat) : Int)) (h2 : ¬ ((12 : Int) ≤ a0)) (h3 : a1 = 0 ∨ (a1 = 1 ∧ 0 ≤ a0 ∧ a0 ≤ 11 ∧ 0 ≤ a3)) (h4 : a1 = 0 ∨ a1 = 1) (h5 : ¬ (a1 = 0)) (r0 : -2147483648 ≤ a0 ∧ a0 < 2147483648) (r1 : -2147483648 ≤ a1 ∧ a1 < 2147483648) : 0 ≤ a0 ∧ a0 ≤ 11 := by omega
abbrev rm_X11_lateMany : Room := { frames := 2, cells := 0, slots := 0, locals := 46 }
set_option maxHeartbeats 4000000 in
set_option maxRecDepth 100000 in
theorem c_X11_lateMany (l : Launch) (E : XE) (K : Nat → Nat) (F : Nat → Nat → Nat) (tl z0 z1 z2 z3 z4 z5 z6 z7 z8 z9 z10 z11 z12 z13 z14 z15 z16 z17 z18 z19 z20 : Int32) (ar0 ar1 ar2 ar3 ar4 ar5 ar6 ar7 ar8 ar9 ar10 : Nat → Int32) (h0 : Heap) (a : Nat) (ha : K a = 13) (hR : RV ar1) : Met l yX11_lateMany (xw yX11_lateMany cX11_lateMany 3 (some .int)) rm_X11_lateMany (va_Pc [.ref a] (XPh E K F (tl, [z0, z1, z2, z3, z4, z5, z6, z7, z8, z9, z10, z11, z12, z13, z14, z15, z16, z17, z18, z19, z20], [ar0, ar1, ar2, ar3, ar4, ar5, ar6, ar7, ar8, ar9, ar10]) h0)) (XQ E (fun v (u : Unit) => ∃ r : Int32, v = .int r) (fun _ H => H = h0)) 0 0 (xA E) := by
  refine x_enter (by decide) (Nat.le_of_ble_eq_true rfl) ?_
  intro p e s m args below meth c Q S hr hlk hnm hQ hP ls hl
  obtain ⟨⟨hz, hK, hT⟩, hh⟩ := hP
  obtain ⟨hx, hb, -, -, -⟩ := id S
  have hS : va_S (xA E) s.heap s.heap [] := va_S.rf
  have hl : lv_has ls 3 [(0, .ref a)] := hl
  refine lv_iconst (v := 0) hx hb dX11_lateMany_0 (by decide) ?_
  refine lv_istore_n (lv' := [(1, .int 0), (0, .ref a)]) hx hb dX11_lateMany_1 rfl hl (by decide) rfl (fun ls hl => ?_)
  refine lv_iconst (v := 0) hx hb dX11_lateMany_2 (by decide) ?_
  refine lv_istore_n (lv' := [(2, .int 0), (1, .int 0), (0, .ref a)]) hx hb dX11_lateMany_3 rfl hl (by decide) rfl (fun ls hl => ?_)
  have L4 : ∀ (N3 : Nat) (x1 : Int32) (x2 : Int32) (locs : List Loc) (ls : Array Slot), (0 : Int) ≤ x2.toInt → 2147483648 - x2.toInt < ((N3 : Nat) : Int) → TW E K F (tl, [z0, z1, z2, z3, z4, z5, z6, z7, z8, z9, z10, z11, z12, z13, z14, z15, z16, z17, z18, z19, z20], [ar0, ar1, ar2, ar3, ar4, ar5, ar6, ar7, ar8, ar9, ar10]) [] s.heap → va_S (xA E) s.heap s.heap locs → lv_has ls 3 [(0, .ref a), (1, .int x1), (2, .int x2)] → W p l e rm_X11_lateMany s m args below meth c s.heap locs 0 0 Q (F0 m 4 ls []) := by
    intro N3
    induction N3 with
    | zero =>
      intro x1 x2 locs ls hf4 hm5
      exact absurd hm5 (z_X11_lateMany_1 x2.toInt hf4 (xr x2))
    | succ N3 ih6 =>
      intro x1 x2 locs ls hf4 hm5 hT hS hl
      refine lv_iload_n hx hb dX11_lateMany_4 rfl (lv_at hl 2 rfl) ?_
      refine lv_bipush (v := 12) hx hb dX11_lateMany_5 (by decide) ?_
      refine xi_cge (tgt := 38) hx hb (rfl : Int32.toInt x2 = x2.toInt) ((by decide) : Int32.toInt 12 = (12 : Int)) dX11_lateMany_7 (by decide) (fun c7 => ?_) (fun c7 => ?_)
      · refine lv_iload_n hx hb dX11_lateMany_38 rfl (lv_at hl 1 rfl) ?_
        exact x_ri hx hb hr hlk hQ (Nat.le_of_ble_eq_true rfl) (Nat.le_of_ble_eq_true rfl) hS dX11_lateMany_39 () ⟨_, rfl⟩ hh
      · refine lv_iload_n hx hb dX11_lateMany_10 rfl (lv_at hl 1 rfl) ?_
        refine lv_aload_n hx hb dX11_lateMany_11 rfl (lv_at hl 0 rfl) ?_
        refine lv_iload_n hx hb dX11_lateMany_12 rfl (lv_at hl 2 rfl) ?_
        refine x_clp (x_runV (b := a) (As := [.int x2]) (rest := [.int x1]) S (c_X11_isRule l E K F tl z0 z1 z2 z3 z4 z5 z6 z7 z8 z9 z10 z11 z12 z13 z14 z15 z16 z17 z18 z19 z20 ar0 ar1 ar2 ar3 ar4 ar5 ar6 ar7 ar8 ar9 ar10 s.heap a x2 ha hR) mv_X11_isRule km_X11_162 rfl rfl ⟨Nat.le_of_ble_eq_true rfl, Nat.le_of_ble_eq_true rfl⟩ (rc_13 hK hT ha) hK (fun _ => XPh.blind) (fun U hU hW => XPh.at hK hz hS hT hU hW) rfl hl.1 (Nat.le_of_ble_eq_true rfl) dX11_lateMany_13 ⟨Nat.le_of_ble_eq_true rfl, Nat.le_of_ble_eq_true rfl⟩) hS ?_
        rintro _ _ locs ⟨x9, rfl, b10, t8⟩ hS
        have t8 : x9.toInt = 0 ∨ (x9.toInt = 1 ∧ 0 ≤ x2.toInt ∧ x2.toInt ≤ 11 ∧ 0 ≤ (aI ar1 (10 * x2.toInt + (0 : Int)))) := t8
        have J30 : ∀ (x11 : Int32) (locs : List Loc) (ls : Array Slot), TW E K F (tl, [z0, z1, z2, z3, z4, z5, z6, z7, z8, z9, z10, z11, z12, z13, z14, z15, z16, z17, z18, z19, z20], [ar0, ar1, ar2, ar3, ar4, ar5, ar6, ar7, ar8, ar9, ar10]) [] s.heap → va_S (xA E) s.heap s.heap locs → lv_has ls 3 [(0, .ref a), (2, .int x2)] → W p l e rm_X11_lateMany s m args below meth c s.heap locs 0 0 Q (F0 m 30 ls [.int x11, .int x1]) := by
          intro x11 locs ls hT hS hl
          refine xi_iadd hx hb (rfl : Int32.toInt x1 = x1.toInt) (rfl : Int32.toInt x11 = x11.toInt) dX11_lateMany_30 (fun x12 t13 => ?_)
          refine lv_istore_n (lv' := [(1, .int x12), (0, .ref a), (2, .int x2)]) hx hb dX11_lateMany_31 rfl hl (by decide) rfl (fun ls hl => ?_)
          refine xi_iinc (n := 1) (lv' := fun z9 => [(2, .int z9), (1, .int x12), (0, .ref a)]) (k := 2) hx hb (rfl : Int32.toInt x2 = x2.toInt) (by decide) dX11_lateMany_32 hl rfl (by decide) (fun _ => rfl) (fun x14 ls t15 hl => ?_)
          have hl : lv_has ls 3 [(2, .int x14), (1, .int x12), (0, .ref a)] := hl
          refine lv_goto (tgt := 4) hx hb dX11_lateMany_35 (by decide) ?_
          exact ih6 x12 x14 _ _ (z_X11_lateMany_2 x14.toInt x2.toInt x9.toInt N3 (aI ar1 (10 * x2.toInt + (0 : Int))) hf4 hm5 c7 t8 (xbz b10) t15 (xr x14) (xr x2) (xr x9)) (z_X11_lateMany_3 x14.toInt x2.toInt x9.toInt N3 (aI ar1 (10 * x2.toInt + (0 : Int))) hf4 hm5 c7 t8 (xbz b10) t15 (xr x14) (xr x2) (xr x9)) hT.nil hS (lv_sub hl [2, 1, 0] rfl)
        refine xi_zeq (tgt := 29) hx hb (rfl : Int32.toInt x9 = x9.toInt) dX11_lateMany_16 (by decide) (fun c16 => ?_) (fun c16 => ?_)
        · refine lv_iconst (v := 0) hx hb dX11_lateMany_29 (by decide) ?_
          exact J30 0 _ _ hT.nil hS (lv_sub hl [0, 2] rfl)
        · refine lv_aload_n hx hb dX11_lateMany_19 rfl (lv_at hl 0 rfl) ?_
          refine lv_iload_n hx hb dX11_lateMany_20 rfl (lv_at hl 2 rfl) ?_
          refine lv_bipush (v := 6) hx hb dX11_lateMany_21 (by decide) ?_
          refine x_clp (x_runV (b := a) (As := [.int x2, .int 6]) (rest := [.int x1]) S (c_X11_of l E K F tl z0 z1 z2 z3 z4 z5 z6 z7 z8 z9 z10 z11 z12 z13 z14 z15 z16 z17 z18 z19 z20 ar0 ar1 ar2 ar3 ar4 ar5 ar6 ar7 ar8 ar9 ar10 s.heap a x2 6 ha (z_X11_lateMany_4 x2.toInt x9.toInt N3 (aI ar1 (10 * x2.toInt + (0 : Int))) hf4 hm5 c7 t8 (xbz b10) c16 (xr x2) (xr x9)) (by decide)) mv_X11_of km_X11_165 rfl rfl ⟨Nat.le_of_ble_eq_true rfl, Nat.le_of_ble_eq_true rfl⟩ (rc_13 hK hT ha) hK (fun _ => XPh.blind) (fun U hU hW => XPh.at hK hz hS hT hU hW) rfl hl.1 (Nat.le_of_ble_eq_true rfl) dX11_lateMany_23 ⟨Nat.le_of_ble_eq_true rfl, Nat.le_of_ble_eq_true rfl⟩) hS ?_
          rintro _ _ locs ⟨x18, rfl, t17⟩ hS
          have t17 : x18.toInt = (aI ar1 (10 * x2.toInt + (6 : Int))) := t17
          have v20 : (-1 ≤ (aI ar1 (10 * x2.toInt + (0 : Int))) ∧ (aI ar1 (10 * x2.toInt + (0 : Int))) ≤ 5) ∧ (0 ≤ (aI ar1 (10 * x2.toInt + (1 : Int))) ∧ (aI ar1 (10 * x2.toInt + (1 : Int))) ≤ 2) ∧ (0 ≤ (aI ar1 (10 * x2.toInt + (2 : Int))) ∧ (aI ar1 (10 * x2.toInt + (2 : Int))) ≤ 2) ∧ (-1 ≤ (aI ar1 (10 * x2.toInt + (3 : Int))) ∧ (aI ar1 (10 * x2.toInt + (3 : Int))) ≤ 2) ∧ ((aI ar1 (10 * x2.toInt + (0 : Int))) = 1 ∨ (aI ar1 (10 * x2.toInt + (0 : Int))) = 3 ∨ (aI ar1 (10 * x2.toInt + (0 : Int))) = 4 → 0 ≤ (aI ar1 (10 * x2.toInt + (3 : Int)))) := RV.row hR (z_X11_lateMany_5 x2.toInt x9.toInt N3 (aI ar1 (10 * x2.toInt + (0 : Int))) hf4 hm5 c7 t8 (xbz b10) c16 (xr x2) (xr x9))
          refine lv_goto (tgt := 30) hx hb dX11_lateMany_26 (by decide) ?_
          exact J30 x18 _ _ hT.nil hS (lv_sub hl [0, 2] rfl)
  exact L4 4294967297 0 0 _ _ (by decide) (by decide) hT.nil hS (lv_sub hl [2, 1, 0] rfl)

theorem z_X11_count_1 (a0 : Int) (r0 : -2147483648 ≤ a0 ∧ a0 < 2147483648) : (a0 < 0 ∨ 9 < a0) ∨ (a0 = 0) ∨ (a0 = 1) ∨ (a0 = 2) ∨ (a0 = 3) ∨ (a0 = 4) ∨ (a0 = 5) ∨ (a0 = 6) ∨ (a0 = 7) ∨ (a0 = 8) ∨ (a0 = 9) := by omega
theorem z_X11_count_2 (a0 : Int) (a1 : Int) (a2 : Int) (h0 : a0 < 0 ∨ 9 < a0) (h1 : (a1 = 1 ∧ (4 : Int) ≤ a0 ∧ a0 ≤ (7 : Int)) ∨ (a1 = 0 ∧ (a0 < (4 : Int) ∨ (7 : Int) < a0))) (h2 : ¬ (a1 = 0)) (h3 : a2 = a0 - (4 : Int) ∨ a0 - (4 : Int) < -2147483648 ∨ 2147483648 ≤ a0 - (4 : Int)) (r0 : -2147483648 ≤ a0 ∧ a0 < 2147483648) (r1 : -2147483648 ≤ a1 ∧ a1 < 2147483648) (r2 : -2147483648 ≤ a2 ∧ a2 < 2147483648) : 0 ≤ a2 ∧ a2 < ((4 : Nat) : Int) := by omega
theorem z_X11_count_3 (a0 : Int) (a1 : Int) (a2 : Int) (h0 : a0 = 4) (h1 : (a1 = 1 ∧ (4 : Int) ≤ a0 ∧ a0 ≤ (7 : Int)) ∨ (a1 = 0 ∧ (a0 < (4 : Int) ∨ (7 : Int) < a0))) (h2 : ¬ (a1 = 0)) (h3 : a2 = a0 - (4 : Int) ∨ a0 - (4 : Int) < -2147483648 ∨ 2147483648 ≤ a0 - (4 : Int)) (r0 : -2147483648 ≤ a0 ∧ a0 < 2147483648) (r1 : -2147483648 ≤ a1 ∧ a1 < 2147483648) (r2 : -2147483648 ≤ a2 ∧ a2 < 2147483648) : 0 ≤ a2 ∧ a2 < ((4 : Nat) : Int) := by omega
theorem z_X11_count_4 (a0 : Int) (a1 : Int) (a2 : Int) (h0 : a0 = 5) (h1 : (a1 = 1 ∧ (4 : Int) ≤ a0 ∧ a0 ≤ (7 : Int)) ∨ (a1 = 0 ∧ (a0 < (4 : Int) ∨ (7 : Int) < a0))) (h2 : ¬ (a1 = 0)) (h3 : a2 = a0 - (4 : Int) ∨ a0 - (4 : Int) < -2147483648 ∨ 2147483648 ≤ a0 - (4 : Int)) (r0 : -2147483648 ≤ a0 ∧ a0 < 2147483648) (r1 : -2147483648 ≤ a1 ∧ a1 < 2147483648) (r2 : -2147483648 ≤ a2 ∧ a2 < 2147483648) : 0 ≤ a2 ∧ a2 < ((4 : Nat) : Int) := by omega
theorem z_X11_count_5 (a0 : Int) (a1 : Int) (a2 : Int) (h0 : a0 = 6) (h1 : (a1 = 1 ∧ (4 : Int) ≤ a0 ∧ a0 ≤ (7 : Int)) ∨ (a1 = 0 ∧ (a0 < (4 : Int) ∨ (7 : Int) < a0))) (h2 : ¬ (a1 = 0)) (h3 : a2 = a0 - (4 : Int) ∨ a0 - (4 : Int) < -2147483648 ∨ 2147483648 ≤ a0 - (4 : Int)) (r0 : -2147483648 ≤ a0 ∧ a0 < 2147483648) (r1 : -2147483648 ≤ a1 ∧ a1 < 2147483648) (r2 : -2147483648 ≤ a2 ∧ a2 < 2147483648) : 0 ≤ a2 ∧ a2 < ((4 : Nat) : Int) := by omega
theorem z_X11_count_6 (a0 : Int) (a1 : Int) (a2 : Int) (h0 : a0 = 7) (h1 : (a1 = 1 ∧ (4 : Int) ≤ a0 ∧ a0 ≤ (7 : Int)) ∨ (a1 = 0 ∧ (a0 < (4 : Int) ∨ (7 : Int) < a0))) (h2 : ¬ (a1 = 0)) (h3 : a2 = a0 - (4 : Int) ∨ a0 - (4 : Int) < -2147483648 ∨ 2147483648 ≤ a0 - (4 : Int)) (r0 : -2147483648 ≤ a0 ∧ a0 < 2147483648) (r1 : -2147483648 ≤ a1 ∧ a1 < 2147483648) (r2 : -2147483648 ≤ a2 ∧ a2 < 2147483648) : 0 ≤ a2 ∧ a2 < ((4 : Nat) : Int) := by omega
abbrev rm_X11_count : Room := { frames := 6, cells := 0, slots := 0, locals := 142 }
set_option maxHeartbeats 4000000 in
set_option maxRecDepth 100000 in
theorem c_X11_count (l : Launch) (E : XE) (K : Nat → Nat) (F : Nat → Nat → Nat) (tl z0 z1 z2 z3 z4 z5 z6 z7 z8 z9 z10 z11 z12 z13 z14 z15 z16 z17 z18 z19 z20 : Int32) (ar0 ar1 ar2 ar3 ar4 ar5 ar6 ar7 ar8 ar9 ar10 : Nat → Int32) (a : Nat) (p0 : Int32) (ha : K a = 13) (hR : RV ar1) : Met l yX11_count (xw yX11_count cX11_count 2 (some .int)) rm_X11_count (va_Pc [.ref a, .int p0] (XP E K F (tl, [z0, z1, z2, z3, z4, z5, z6, z7, z8, z9, z10, z11, z12, z13, z14, z15, z16, z17, z18, z19, z20], [ar0, ar1, ar2, ar3, ar4, ar5, ar6, ar7, ar8, ar9, ar10]))) (XQ E (fun v (u : Int32 × Int32 × Int32 × (Nat → Int32) × (Nat → Int32) × (Nat → Int32)) => ∃ r : Int32, v = .int r) (fun u H => TW E K F (tl, [u.1, z1, z2, u.2.1, u.2.2.1, z5, z6, z7, z8, z9, z10, z11, z12, z13, z14, z15, z16, z17, z18, z19, z20], [ar0, ar1, u.2.2.2.1, u.2.2.2.2.1, u.2.2.2.2.2, ar5, ar6, ar7, ar8, ar9, ar10]) [] H)) 0 0 (xA E) := by
  refine x_enter (by decide) (Nat.le_of_ble_eq_true rfl) ?_
  intro p e s m args below meth c Q S hr hlk hnm hQ hP ls hl
  obtain ⟨hz, hK, hT⟩ := hP
  obtain ⟨hx, hb, -, -, -⟩ := id S
  obtain ⟨H, hT, hS, hgo⟩ : ∃ H : Heap, TW E K F (tl, [z0, z1, z2, z3, z4, z5, z6, z7, z8, z9, z10, z11, z12, z13, z14, z15, z16, z17, z18, z19, z20], [ar0, ar1, ar2, ar3, ar4, ar5, ar6, ar7, ar8, ar9, ar10]) [] H ∧ va_S (xA E) s.heap H [] ∧ H = s.heap := ⟨_, hT, va_S.rf, rfl⟩
  rw [← hgo]
  have hl : lv_has ls 2 [(0, .ref a), (1, .int p0)] := hl
  refine lv_aload_n hx hb dX11_count_0 rfl (lv_at hl 0 rfl) ?_
  refine lv_iconst (v := 0) hx hb dX11_count_1 (by decide) ?_
  refine pX11_0 (kq := []) (v := 0) S hK hT hS ha kf_X11_134 (Nat.le_of_ble_eq_true rfl) dX11_count_2 (fun _ h => by cases h) (fun H locs hT hS => ?_)
  have hT : TW E K F (tl, [0, z1, z2, z3, z4, z5, z6, z7, z8, z9, z10, z11, z12, z13, z14, z15, z16, z17, z18, z19, z20], [ar0, ar1, ar2, ar3, ar4, ar5, ar6, ar7, ar8, ar9, ar10]) [] H := hT
  refine lv_iload_n hx hb dX11_count_5 rfl (lv_at hl 1 rfl) ?_
  rcases ((z_X11_count_1 p0.toInt (xr p0)) : (p0.toInt < 0 ∨ 9 < p0.toInt) ∨ (p0.toInt = 0) ∨ (p0.toInt = 1) ∨ (p0.toInt = 2) ∨ (p0.toInt = 3) ∨ (p0.toInt = 4) ∨ (p0.toInt = 5) ∨ (p0.toInt = 6) ∨ (p0.toInt = 7) ∨ (p0.toInt = 8) ∨ (p0.toInt = 9)) with c1 | c1 | c1 | c1 | c1 | c1 | c1 | c1 | c1 | c1 | c1
  · refine lv_tableOut (tgt := 98) hx hb dX11_count_6 c1 (by decide) ?_
    refine lv_iload_n hx hb dX11_count_98 rfl (lv_at hl 1 rfl) ?_
    refine lv_i2l (v := p0.toInt64) hx hb dX11_count_99 rfl ?_
    refine lv_ldc2 (v := 4) hx hb S.2.2.2.1 (S.2.2.2.2 _ (List.mem_cons_of_mem _ kc_X11_401)) dX11_count_100 ?_
    refine lv_ldc2 (v := 7) hx hb S.2.2.2.1 (S.2.2.2.2 _ (List.mem_cons_of_mem _ kc_X11_403)) dX11_count_103 ?_
    refine x_clp (x_runS (As := [.long p0.toInt64, .long (4 : Int64), .long (7 : Int64)]) (rest := []) S (c_X11_in l E K F tl 0 z1 z2 z3 z4 z5 z6 z7 z8 z9 z10 z11 z12 z13 z14 z15 z16 z17 z18 z19 z20 ar0 ar1 ar2 ar3 ar4 ar5 ar6 ar7 ar8 ar9 ar10 H p0.toInt64 (4 : Int64) (7 : Int64) p0.toInt (4 : Int) (7 : Int) (xl_i2l (rfl : Int32.toInt p0 = p0.toInt)) (by decide) (by decide)) ms_X11_in km_X11_139 rfl rfl ⟨Nat.le_of_ble_eq_true rfl, Nat.le_of_ble_eq_true rfl⟩ hK (fun _ => XPh.blind) (fun U hU hW => XPh.at hK hz hS hT hU hW) rfl hl.1 (Nat.le_of_ble_eq_true rfl) dX11_count_106 ⟨Nat.le_of_ble_eq_true rfl, Nat.le_of_ble_eq_true rfl⟩) hS ?_
    rintro _ _ locs ⟨x2, rfl, b3, t4⟩ hS
    have t4 : (x2.toInt = 1 ∧ (4 : Int) ≤ p0.toInt ∧ p0.toInt ≤ (7 : Int)) ∨ (x2.toInt = 0 ∧ (p0.toInt < (4 : Int) ∨ (7 : Int) < p0.toInt)) := t4
    refine xi_zeq (tgt := 123) hx hb (rfl : Int32.toInt x2 = x2.toInt) dX11_count_109 (by decide) (fun c5 => ?_) (fun c5 => ?_)
    · refine lv_iconst (v := (-1)) hx hb dX11_count_123 (by decide) ?_
      exact x_ri hx hb hr hlk hQ (Nat.le_of_ble_eq_true rfl) (Nat.le_of_ble_eq_true rfl) hS dX11_count_124 (0, z3, z4, ar2, ar3, ar4) ⟨_, rfl⟩ hT.nil
    · refine lv_aload_n hx hb dX11_count_112 rfl (lv_at hl 0 rfl) ?_
      refine gX11_9 S hK hT ha kf_X11_30 dX11_count_113 (fun hk6 => ?_)
      refine lv_iload_n hx hb dX11_count_116 rfl (lv_at hl 1 rfl) ?_
      refine lv_iconst (v := 4) hx hb dX11_count_117 (by decide) ?_
      refine xi_isub hx hb (rfl : Int32.toInt p0 = p0.toInt) ((by decide) : Int32.toInt 4 = (4 : Int)) dX11_count_118 (fun x7 t8 => ?_)
      refine al_0 S hK hT hk6 ar_36 (by decide) (z_X11_count_2 p0.toInt x2.toInt x7.toInt c1 t4 c5 t8 (xr p0) (xr x2) (xr x7)) dX11_count_119 (fun x9 o10 => ?_)
      refine lv_goto (tgt := 124) hx hb dX11_count_120 (by decide) ?_
      exact x_ri hx hb hr hlk hQ (Nat.le_of_ble_eq_true rfl) (Nat.le_of_ble_eq_true rfl) hS dX11_count_124 (0, z3, z4, ar2, ar3, ar4) ⟨_, rfl⟩ hT.nil
  · refine lv_tableIn (off := 54) (tgt := 60) hx hb dX11_count_6 (by rw [c1]; decide) (by rw [c1]; decide) (by rw [c1]; rfl) (by decide) ?_
    refine lv_aload_n hx hb dX11_count_60 rfl (lv_at hl 0 rfl) ?_
    refine x_clp (x_runV (b := a) (As := []) (rest := []) S (c_X11_ruleMany l E K F tl 0 z1 z2 z3 z4 z5 z6 z7 z8 z9 z10 z11 z12 z13 z14 z15 z16 z17 z18 z19 z20 ar0 ar1 ar2 ar3 ar4 ar5 ar6 ar7 ar8 ar9 ar10 H a ha hR) mv_X11_ruleMany km_X11_303 rfl rfl ⟨Nat.le_of_ble_eq_true rfl, Nat.le_of_ble_eq_true rfl⟩ (rc_13 hK hT ha) hK (fun _ => XPh.blind) (fun U hU hW => XPh.at hK hz hS hT hU hW) rfl hl.1 (Nat.le_of_ble_eq_true rfl) dX11_count_61 ⟨Nat.le_of_ble_eq_true rfl, Nat.le_of_ble_eq_true rfl⟩) hS ?_
    rintro _ _ locs ⟨x11, rfl⟩ hS
    exact x_ri hx hb hr hlk hQ (Nat.le_of_ble_eq_true rfl) (Nat.le_of_ble_eq_true rfl) hS dX11_count_64 (0, z3, z4, ar2, ar3, ar4) ⟨_, rfl⟩ hT.nil
  · refine lv_tableIn (off := 59) (tgt := 65) hx hb dX11_count_6 (by rw [c1]; decide) (by rw [c1]; decide) (by rw [c1]; rfl) (by decide) ?_
    refine lv_aload_n hx hb dX11_count_65 rfl (lv_at hl 0 rfl) ?_
    refine x_clp (x_runV (b := a) (As := []) (rest := []) S (c_X11_rowMany l E K F tl 0 z1 z2 z3 z4 z5 z6 z7 z8 z9 z10 z11 z12 z13 z14 z15 z16 z17 z18 z19 z20 ar0 ar1 ar2 ar3 ar4 ar5 ar6 ar7 ar8 ar9 ar10 H a ha) mv_X11_rowMany km_X11_376 rfl rfl ⟨Nat.le_of_ble_eq_true rfl, Nat.le_of_ble_eq_true rfl⟩ (rc_13 hK hT ha) hK (fun _ => XPh.blind) (fun U hU hW => XPh.at hK hz hS hT hU hW) rfl hl.1 (Nat.le_of_ble_eq_true rfl) dX11_count_66 ⟨Nat.le_of_ble_eq_true rfl, Nat.le_of_ble_eq_true rfl⟩) hS ?_
    rintro _ _ locs ⟨x13, rfl⟩ hS
    exact x_ri hx hb hr hlk hQ (Nat.le_of_ble_eq_true rfl) (Nat.le_of_ble_eq_true rfl) hS dX11_count_69 (0, z3, z4, ar2, ar3, ar4) ⟨_, rfl⟩ hT.nil
  · refine lv_tableIn (off := 64) (tgt := 70) hx hb dX11_count_6 (by rw [c1]; decide) (by rw [c1]; decide) (by rw [c1]; rfl) (by decide) ?_
    refine lv_aload_n hx hb dX11_count_70 rfl (lv_at hl 0 rfl) ?_
    refine x_cl0 (x_runV (b := a) (As := []) (rest := []) S (c_X11_queueMany l E K F tl 0 z1 z2 z3 z4 z5 z6 z7 z8 z9 z10 z11 z12 z13 z14 z15 z16 z17 z18 z19 z20 ar0 ar1 ar2 ar3 ar4 ar5 ar6 ar7 ar8 ar9 ar10 a ha hR) mv_X11_queueMany km_X11_379 rfl rfl ⟨Nat.le_of_ble_eq_true rfl, Nat.le_of_ble_eq_true rfl⟩ (rc_13 hK hT ha) hK (fun _ => XP.blind) (fun U hU hW => XP.at hK hz hS hT hU hW) rfl hl.1 (Nat.le_of_ble_eq_true rfl) dX11_count_71 ⟨Nat.le_of_ble_eq_true rfl, Nat.le_of_ble_eq_true rfl⟩) hS ?_
    rintro _ ⟨u15, u16, f17, f18, f19⟩ H locs ⟨x21, rfl, t20⟩ hT hS
    have hT : TW E K F (tl, [0, z1, z2, u15, u16, z5, z6, z7, z8, z9, z10, z11, z12, z13, z14, z15, z16, z17, z18, z19, z20], [ar0, ar1, f17, f18, f19, ar5, ar6, ar7, ar8, ar9, ar10]) [] H := hT
    have t20 : 0 ≤ u16.toInt ∧ u16.toInt ≤ 2388 ∧ u16.toInt ≤ (((fV ar1 f18 f19) : Nat) : Int) := t20
    exact x_ri hx hb hr hlk hQ (Nat.le_of_ble_eq_true rfl) (Nat.le_of_ble_eq_true rfl) hS dX11_count_74 (0, u15, u16, f17, f18, f19) ⟨_, rfl⟩ hT.nil
  · refine lv_tableIn (off := 69) (tgt := 75) hx hb dX11_count_6 (by rw [c1]; decide) (by rw [c1]; decide) (by rw [c1]; rfl) (by decide) ?_
    refine lv_aload_n hx hb dX11_count_75 rfl (lv_at hl 0 rfl) ?_
    refine gX11_6 S hK hT ha kf_X11_206 dX11_count_76 (v := z1) rfl ?_
    refine xi_zeq (tgt := 86) hx hb (rfl : Int32.toInt z1 = z1.toInt) dX11_count_79 (by decide) (fun c23 => ?_) (fun c23 => ?_)
    · refine lv_iconst (v := 0) hx hb dX11_count_86 (by decide) ?_
      exact x_ri hx hb hr hlk hQ (Nat.le_of_ble_eq_true rfl) (Nat.le_of_ble_eq_true rfl) hS dX11_count_87 (0, z3, z4, ar2, ar3, ar4) ⟨_, rfl⟩ hT.nil
    · refine lv_iconst (v := 1) hx hb dX11_count_82 (by decide) ?_
      refine lv_goto (tgt := 87) hx hb dX11_count_83 (by decide) ?_
      exact x_ri hx hb hr hlk hQ (Nat.le_of_ble_eq_true rfl) (Nat.le_of_ble_eq_true rfl) hS dX11_count_87 (0, z3, z4, ar2, ar3, ar4) ⟨_, rfl⟩ hT.nil
  · refine lv_tableIn (off := 92) (tgt := 98) hx hb dX11_count_6 (by rw [c1]; decide) (by rw [c1]; decide) (by rw [c1]; rfl) (by decide) ?_
    refine lv_iload_n hx hb dX11_count_98 rfl (lv_at hl 1 rfl) ?_
    refine lv_i2l (v := p0.toInt64) hx hb dX11_count_99 rfl ?_
    refine lv_ldc2 (v := 4) hx hb S.2.2.2.1 (S.2.2.2.2 _ (List.mem_cons_of_mem _ kc_X11_401)) dX11_count_100 ?_
    refine lv_ldc2 (v := 7) hx hb S.2.2.2.1 (S.2.2.2.2 _ (List.mem_cons_of_mem _ kc_X11_403)) dX11_count_103 ?_
    refine x_clp (x_runS (As := [.long p0.toInt64, .long (4 : Int64), .long (7 : Int64)]) (rest := []) S (c_X11_in l E K F tl 0 z1 z2 z3 z4 z5 z6 z7 z8 z9 z10 z11 z12 z13 z14 z15 z16 z17 z18 z19 z20 ar0 ar1 ar2 ar3 ar4 ar5 ar6 ar7 ar8 ar9 ar10 H p0.toInt64 (4 : Int64) (7 : Int64) p0.toInt (4 : Int) (7 : Int) (xl_i2l (rfl : Int32.toInt p0 = p0.toInt)) (by decide) (by decide)) ms_X11_in km_X11_139 rfl rfl ⟨Nat.le_of_ble_eq_true rfl, Nat.le_of_ble_eq_true rfl⟩ hK (fun _ => XPh.blind) (fun U hU hW => XPh.at hK hz hS hT hU hW) rfl hl.1 (Nat.le_of_ble_eq_true rfl) dX11_count_106 ⟨Nat.le_of_ble_eq_true rfl, Nat.le_of_ble_eq_true rfl⟩) hS ?_
    rintro _ _ locs ⟨x24, rfl, b25, t26⟩ hS
    have t26 : (x24.toInt = 1 ∧ (4 : Int) ≤ p0.toInt ∧ p0.toInt ≤ (7 : Int)) ∨ (x24.toInt = 0 ∧ (p0.toInt < (4 : Int) ∨ (7 : Int) < p0.toInt)) := t26
    refine xi_zeq (tgt := 123) hx hb (rfl : Int32.toInt x24 = x24.toInt) dX11_count_109 (by decide) (fun c27 => ?_) (fun c27 => ?_)
    · refine lv_iconst (v := (-1)) hx hb dX11_count_123 (by decide) ?_
      exact x_ri hx hb hr hlk hQ (Nat.le_of_ble_eq_true rfl) (Nat.le_of_ble_eq_true rfl) hS dX11_count_124 (0, z3, z4, ar2, ar3, ar4) ⟨_, rfl⟩ hT.nil
    · refine lv_aload_n hx hb dX11_count_112 rfl (lv_at hl 0 rfl) ?_
      refine gX11_9 S hK hT ha kf_X11_30 dX11_count_113 (fun hk28 => ?_)
      refine lv_iload_n hx hb dX11_count_116 rfl (lv_at hl 1 rfl) ?_
      refine lv_iconst (v := 4) hx hb dX11_count_117 (by decide) ?_
      refine xi_isub hx hb (rfl : Int32.toInt p0 = p0.toInt) ((by decide) : Int32.toInt 4 = (4 : Int)) dX11_count_118 (fun x29 t30 => ?_)
      refine al_0 S hK hT hk28 ar_36 (by decide) (z_X11_count_3 p0.toInt x24.toInt x29.toInt c1 t26 c27 t30 (xr p0) (xr x24) (xr x29)) dX11_count_119 (fun x31 o32 => ?_)
      refine lv_goto (tgt := 124) hx hb dX11_count_120 (by decide) ?_
      exact x_ri hx hb hr hlk hQ (Nat.le_of_ble_eq_true rfl) (Nat.le_of_ble_eq_true rfl) hS dX11_count_124 (0, z3, z4, ar2, ar3, ar4) ⟨_, rfl⟩ hT.nil
  · refine lv_tableIn (off := 92) (tgt := 98) hx hb dX11_count_6 (by rw [c1]; decide) (by rw [c1]; decide) (by rw [c1]; rfl) (by decide) ?_
    refine lv_iload_n hx hb dX11_count_98 rfl (lv_at hl 1 rfl) ?_
    refine lv_i2l (v := p0.toInt64) hx hb dX11_count_99 rfl ?_
    refine lv_ldc2 (v := 4) hx hb S.2.2.2.1 (S.2.2.2.2 _ (List.mem_cons_of_mem _ kc_X11_401)) dX11_count_100 ?_
    refine lv_ldc2 (v := 7) hx hb S.2.2.2.1 (S.2.2.2.2 _ (List.mem_cons_of_mem _ kc_X11_403)) dX11_count_103 ?_
    refine x_clp (x_runS (As := [.long p0.toInt64, .long (4 : Int64), .long (7 : Int64)]) (rest := []) S (c_X11_in l E K F tl 0 z1 z2 z3 z4 z5 z6 z7 z8 z9 z10 z11 z12 z13 z14 z15 z16 z17 z18 z19 z20 ar0 ar1 ar2 ar3 ar4 ar5 ar6 ar7 ar8 ar9 ar10 H p0.toInt64 (4 : Int64) (7 : Int64) p0.toInt (4 : Int) (7 : Int) (xl_i2l (rfl : Int32.toInt p0 = p0.toInt)) (by decide) (by decide)) ms_X11_in km_X11_139 rfl rfl ⟨Nat.le_of_ble_eq_true rfl, Nat.le_of_ble_eq_true rfl⟩ hK (fun _ => XPh.blind) (fun U hU hW => XPh.at hK hz hS hT hU hW) rfl hl.1 (Nat.le_of_ble_eq_true rfl) dX11_count_106 ⟨Nat.le_of_ble_eq_true rfl, Nat.le_of_ble_eq_true rfl⟩) hS ?_
    rintro _ _ locs ⟨x33, rfl, b34, t35⟩ hS
    have t35 : (x33.toInt = 1 ∧ (4 : Int) ≤ p0.toInt ∧ p0.toInt ≤ (7 : Int)) ∨ (x33.toInt = 0 ∧ (p0.toInt < (4 : Int) ∨ (7 : Int) < p0.toInt)) := t35
    refine xi_zeq (tgt := 123) hx hb (rfl : Int32.toInt x33 = x33.toInt) dX11_count_109 (by decide) (fun c36 => ?_) (fun c36 => ?_)
    · refine lv_iconst (v := (-1)) hx hb dX11_count_123 (by decide) ?_
      exact x_ri hx hb hr hlk hQ (Nat.le_of_ble_eq_true rfl) (Nat.le_of_ble_eq_true rfl) hS dX11_count_124 (0, z3, z4, ar2, ar3, ar4) ⟨_, rfl⟩ hT.nil
    · refine lv_aload_n hx hb dX11_count_112 rfl (lv_at hl 0 rfl) ?_
      refine gX11_9 S hK hT ha kf_X11_30 dX11_count_113 (fun hk37 => ?_)
      refine lv_iload_n hx hb dX11_count_116 rfl (lv_at hl 1 rfl) ?_
      refine lv_iconst (v := 4) hx hb dX11_count_117 (by decide) ?_
      refine xi_isub hx hb (rfl : Int32.toInt p0 = p0.toInt) ((by decide) : Int32.toInt 4 = (4 : Int)) dX11_count_118 (fun x38 t39 => ?_)
      refine al_0 S hK hT hk37 ar_36 (by decide) (z_X11_count_4 p0.toInt x33.toInt x38.toInt c1 t35 c36 t39 (xr p0) (xr x33) (xr x38)) dX11_count_119 (fun x40 o41 => ?_)
      refine lv_goto (tgt := 124) hx hb dX11_count_120 (by decide) ?_
      exact x_ri hx hb hr hlk hQ (Nat.le_of_ble_eq_true rfl) (Nat.le_of_ble_eq_true rfl) hS dX11_count_124 (0, z3, z4, ar2, ar3, ar4) ⟨_, rfl⟩ hT.nil
  · refine lv_tableIn (off := 92) (tgt := 98) hx hb dX11_count_6 (by rw [c1]; decide) (by rw [c1]; decide) (by rw [c1]; rfl) (by decide) ?_
    refine lv_iload_n hx hb dX11_count_98 rfl (lv_at hl 1 rfl) ?_
    refine lv_i2l (v := p0.toInt64) hx hb dX11_count_99 rfl ?_
    refine lv_ldc2 (v := 4) hx hb S.2.2.2.1 (S.2.2.2.2 _ (List.mem_cons_of_mem _ kc_X11_401)) dX11_count_100 ?_
    refine lv_ldc2 (v := 7) hx hb S.2.2.2.1 (S.2.2.2.2 _ (List.mem_cons_of_mem _ kc_X11_403)) dX11_count_103 ?_
    refine x_clp (x_runS (As := [.long p0.toInt64, .long (4 : Int64), .long (7 : Int64)]) (rest := []) S (c_X11_in l E K F tl 0 z1 z2 z3 z4 z5 z6 z7 z8 z9 z10 z11 z12 z13 z14 z15 z16 z17 z18 z19 z20 ar0 ar1 ar2 ar3 ar4 ar5 ar6 ar7 ar8 ar9 ar10 H p0.toInt64 (4 : Int64) (7 : Int64) p0.toInt (4 : Int) (7 : Int) (xl_i2l (rfl : Int32.toInt p0 = p0.toInt)) (by decide) (by decide)) ms_X11_in km_X11_139 rfl rfl ⟨Nat.le_of_ble_eq_true rfl, Nat.le_of_ble_eq_true rfl⟩ hK (fun _ => XPh.blind) (fun U hU hW => XPh.at hK hz hS hT hU hW) rfl hl.1 (Nat.le_of_ble_eq_true rfl) dX11_count_106 ⟨Nat.le_of_ble_eq_true rfl, Nat.le_of_ble_eq_true rfl⟩) hS ?_
    rintro _ _ locs ⟨x42, rfl, b43, t44⟩ hS
    have t44 : (x42.toInt = 1 ∧ (4 : Int) ≤ p0.toInt ∧ p0.toInt ≤ (7 : Int)) ∨ (x42.toInt = 0 ∧ (p0.toInt < (4 : Int) ∨ (7 : Int) < p0.toInt)) := t44
    refine xi_zeq (tgt := 123) hx hb (rfl : Int32.toInt x42 = x42.toInt) dX11_count_109 (by decide) (fun c45 => ?_) (fun c45 => ?_)
    · refine lv_iconst (v := (-1)) hx hb dX11_count_123 (by decide) ?_
      exact x_ri hx hb hr hlk hQ (Nat.le_of_ble_eq_true rfl) (Nat.le_of_ble_eq_true rfl) hS dX11_count_124 (0, z3, z4, ar2, ar3, ar4) ⟨_, rfl⟩ hT.nil
    · refine lv_aload_n hx hb dX11_count_112 rfl (lv_at hl 0 rfl) ?_
      refine gX11_9 S hK hT ha kf_X11_30 dX11_count_113 (fun hk46 => ?_)
      refine lv_iload_n hx hb dX11_count_116 rfl (lv_at hl 1 rfl) ?_
      refine lv_iconst (v := 4) hx hb dX11_count_117 (by decide) ?_
      refine xi_isub hx hb (rfl : Int32.toInt p0 = p0.toInt) ((by decide) : Int32.toInt 4 = (4 : Int)) dX11_count_118 (fun x47 t48 => ?_)
      refine al_0 S hK hT hk46 ar_36 (by decide) (z_X11_count_5 p0.toInt x42.toInt x47.toInt c1 t44 c45 t48 (xr p0) (xr x42) (xr x47)) dX11_count_119 (fun x49 o50 => ?_)
      refine lv_goto (tgt := 124) hx hb dX11_count_120 (by decide) ?_
      exact x_ri hx hb hr hlk hQ (Nat.le_of_ble_eq_true rfl) (Nat.le_of_ble_eq_true rfl) hS dX11_count_124 (0, z3, z4, ar2, ar3, ar4) ⟨_, rfl⟩ hT.nil
  · refine lv_tableIn (off := 92) (tgt := 98) hx hb dX11_count_6 (by rw [c1]; decide) (by rw [c1]; decide) (by rw [c1]; rfl) (by decide) ?_
    refine lv_iload_n hx hb dX11_count_98 rfl (lv_at hl 1 rfl) ?_
    refine lv_i2l (v := p0.toInt64) hx hb dX11_count_99 rfl ?_
    refine lv_ldc2 (v := 4) hx hb S.2.2.2.1 (S.2.2.2.2 _ (List.mem_cons_of_mem _ kc_X11_401)) dX11_count_100 ?_
    refine lv_ldc2 (v := 7) hx hb S.2.2.2.1 (S.2.2.2.2 _ (List.mem_cons_of_mem _ kc_X11_403)) dX11_count_103 ?_
    refine x_clp (x_runS (As := [.long p0.toInt64, .long (4 : Int64), .long (7 : Int64)]) (rest := []) S (c_X11_in l E K F tl 0 z1 z2 z3 z4 z5 z6 z7 z8 z9 z10 z11 z12 z13 z14 z15 z16 z17 z18 z19 z20 ar0 ar1 ar2 ar3 ar4 ar5 ar6 ar7 ar8 ar9 ar10 H p0.toInt64 (4 : Int64) (7 : Int64) p0.toInt (4 : Int) (7 : Int) (xl_i2l (rfl : Int32.toInt p0 = p0.toInt)) (by decide) (by decide)) ms_X11_in km_X11_139 rfl rfl ⟨Nat.le_of_ble_eq_true rfl, Nat.le_of_ble_eq_true rfl⟩ hK (fun _ => XPh.blind) (fun U hU hW => XPh.at hK hz hS hT hU hW) rfl hl.1 (Nat.le_of_ble_eq_true rfl) dX11_count_106 ⟨Nat.le_of_ble_eq_true rfl, Nat.le_of_ble_eq_true rfl⟩) hS ?_
    rintro _ _ locs ⟨x51, rfl, b52, t53⟩ hS
    have t53 : (x51.toInt = 1 ∧ (4 : Int) ≤ p0.toInt ∧ p0.toInt ≤ (7 : Int)) ∨ (x51.toInt = 0 ∧ (p0.toInt < (4 : Int) ∨ (7 : Int) < p0.toInt)) := t53
    refine xi_zeq (tgt := 123) hx hb (rfl : Int32.toInt x51 = x51.toInt) dX11_count_109 (by decide) (fun c54 => ?_) (fun c54 => ?_)
    · refine lv_iconst (v := (-1)) hx hb dX11_count_123 (by decide) ?_
      exact x_ri hx hb hr hlk hQ (Nat.le_of_ble_eq_true rfl) (Nat.le_of_ble_eq_true rfl) hS dX11_count_124 (0, z3, z4, ar2, ar3, ar4) ⟨_, rfl⟩ hT.nil
    · refine lv_aload_n hx hb dX11_count_112 rfl (lv_at hl 0 rfl) ?_
      refine gX11_9 S hK hT ha kf_X11_30 dX11_count_113 (fun hk55 => ?_)
      refine lv_iload_n hx hb dX11_count_116 rfl (lv_at hl 1 rfl) ?_
      refine lv_iconst (v := 4) hx hb dX11_count_117 (by decide) ?_
      refine xi_isub hx hb (rfl : Int32.toInt p0 = p0.toInt) ((by decide) : Int32.toInt 4 = (4 : Int)) dX11_count_118 (fun x56 t57 => ?_)
      refine al_0 S hK hT hk55 ar_36 (by decide) (z_X11_count_6 p0.toInt x51.toInt x56.toInt c1 t53 c54 t57 (xr p0) (xr x51) (xr x56)) dX11_count_119 (fun x58 o59 => ?_)
      refine lv_goto (tgt := 124) hx hb dX11_count_120 (by decide) ?_
      exact x_ri hx hb hr hlk hQ (Nat.le_of_ble_eq_true rfl) (Nat.le_of_ble_eq_true rfl) hS dX11_count_124 (0, z3, z4, ar2, ar3, ar4) ⟨_, rfl⟩ hT.nil
  · refine lv_tableIn (off := 82) (tgt := 88) hx hb dX11_count_6 (by rw [c1]; decide) (by rw [c1]; decide) (by rw [c1]; rfl) (by decide) ?_
    refine lv_aload_n hx hb dX11_count_88 rfl (lv_at hl 0 rfl) ?_
    refine gX11_36 S hK hT ha kf_X11_245 dX11_count_89 (v := z8) rfl ?_
    exact x_ri hx hb hr hlk hQ (Nat.le_of_ble_eq_true rfl) (Nat.le_of_ble_eq_true rfl) hS dX11_count_92 (0, z3, z4, ar2, ar3, ar4) ⟨_, rfl⟩ hT.nil
  · refine lv_tableIn (off := 87) (tgt := 93) hx hb dX11_count_6 (by rw [c1]; decide) (by rw [c1]; decide) (by rw [c1]; rfl) (by decide) ?_
    refine lv_aload_n hx hb dX11_count_93 rfl (lv_at hl 0 rfl) ?_
    refine x_clp (x_runV (b := a) (As := []) (rest := []) S (c_X11_lateMany l E K F tl 0 z1 z2 z3 z4 z5 z6 z7 z8 z9 z10 z11 z12 z13 z14 z15 z16 z17 z18 z19 z20 ar0 ar1 ar2 ar3 ar4 ar5 ar6 ar7 ar8 ar9 ar10 H a ha hR) mv_X11_lateMany km_X11_398 rfl rfl ⟨Nat.le_of_ble_eq_true rfl, Nat.le_of_ble_eq_true rfl⟩ (rc_13 hK hT ha) hK (fun _ => XPh.blind) (fun U hU hW => XPh.at hK hz hS hT hU hW) rfl hl.1 (Nat.le_of_ble_eq_true rfl) dX11_count_94 ⟨Nat.le_of_ble_eq_true rfl, Nat.le_of_ble_eq_true rfl⟩) hS ?_
    rintro _ _ locs ⟨x60, rfl⟩ hS
    exact x_ri hx hb hr hlk hQ (Nat.le_of_ble_eq_true rfl) (Nat.le_of_ble_eq_true rfl) hS dX11_count_97 (0, z3, z4, ar2, ar3, ar4) ⟨_, rfl⟩ hT.nil
