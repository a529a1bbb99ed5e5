theorem z_X11_copy_u_1 (a0 : Int) (h0 : (0 : Int) ≤ a0) (r0 : -2147483648 ≤ a0 ∧ a0 < 2147483648) : ¬ (2147483648 - a0 < ((0 : Nat) : Int)) := by omega
theorem z_X11_copy_u_2 (a0 : Int) (a1 : Int) (a2 : Int) (a3 : Int) (a4 : Int) (a5 : Nat) (h0 : 0 ≤ a0 ∧ a0 ≤ 2520) (h1 : 0 ≤ a1 ∧ a1 ≤ 2520) (h2 : (0 : Int) ≤ a2) (h3 : 2147483648 - a2 < ((a5 + 1 : Nat) : Int)) (h4 : ¬ ((360 : Int) ≤ a2)) (h5 : a3 = a1 + a2 ∨ a1 + a2 < -2147483648 ∨ 2147483648 ≤ a1 + a2) (h6 : a4 = a0 + a2 ∨ a0 + a2 < -2147483648 ∨ 2147483648 ≤ a0 + a2) (r0 : -2147483648 ≤ a0 ∧ a0 < 2147483648) (r1 : -2147483648 ≤ a1 ∧ a1 < 2147483648) (r2 : -2147483648 ≤ a2 ∧ a2 < 2147483648) (r3 : -2147483648 ≤ a3 ∧ a3 < 2147483648) (r4 : -2147483648 ≤ a4 ∧ a4 < 2147483648) : 0 ≤ a4 ∧ a4 < a0 + 360 := by first | (clear h5; omega) | omega
theorem z_X11_copy_u_3 (a0 : Int) (a1 : Int) (a2 : Int) (a3 : Int) (a4 : Int) (a5 : Nat) (h0 : 0 ≤ a0 ∧ a0 ≤ 2520) (h1 : 0 ≤ a1 ∧ a1 ≤ 2520) (h2 : (0 : Int) ≤ a2) (h3 : 2147483648 - a2 < ((a5 + 1 : Nat) : Int)) (h4 : ¬ ((360 : Int) ≤ a2)) (h5 : a3 = a1 + a2 ∨ a1 + a2 < -2147483648 ∨ 2147483648 ≤ a1 + a2) (h6 : a4 = a0 + a2 ∨ a0 + a2 < -2147483648 ∨ 2147483648 ≤ a0 + a2) (r0 : -2147483648 ≤ a0 ∧ a0 < 2147483648) (r1 : -2147483648 ≤ a1 ∧ a1 < 2147483648) (r2 : -2147483648 ≤ a2 ∧ a2 < 2147483648) (r3 : -2147483648 ≤ a3 ∧ a3 < 2147483648) (r4 : -2147483648 ≤ a4 ∧ a4 < 2147483648) : 0 ≤ a3 ∧ a3 < a1 + 360 := by first | (clear h6; omega) | omega
theorem z_X11_copy_u_4 (a0 : Int) (a1 : Int) (a2 : Int) (a3 : Int) (a4 : Int) (a5 : Int) (a6 : Nat) (h0 : 0 ≤ a0 ∧ a0 ≤ 2520) (h1 : 0 ≤ a1 ∧ a1 ≤ 2520) (h2 : (0 : Int) ≤ a2) (h3 : 2147483648 - a2 < ((a6 + 1 : Nat) : Int)) (h4 : ¬ ((360 : Int) ≤ a2)) (h5 : a4 = a1 + a2 ∨ a1 + a2 < -2147483648 ∨ 2147483648 ≤ a1 + a2) (h6 : a5 = a0 + a2 ∨ a0 + a2 < -2147483648 ∨ 2147483648 ≤ a0 + a2) (h7 : a3 = a2 + 1 ∨ a2 + 1 < -2147483648 ∨ 2147483648 ≤ a2 + 1) (r0 : -2147483648 ≤ a0 ∧ a0 < 2147483648) (r1 : -2147483648 ≤ a1 ∧ a1 < 2147483648) (r2 : -2147483648 ≤ a2 ∧ a2 < 2147483648) (r3 : -2147483648 ≤ a3 ∧ a3 < 2147483648) (r4 : -2147483648 ≤ a4 ∧ a4 < 2147483648) (r5 : -2147483648 ≤ a5 ∧ a5 < 2147483648) : (0 : Int) ≤ a3 := by first | (clear h5 h6; omega) | omega
theorem z_X11_copy_u_5 (a0 : Int) (a1 : Int) (a2 : Int) (a3 : Int) (a4 : Int) (a5 : Int) (a6 : Nat) (h0 : 0 ≤ a0 ∧ a0 ≤ 2520) (h1 : 0 ≤ a1 ∧ a1 ≤ 2520) (h2 : (0 : Int) ≤ a2) (h3 : 2147483648 - a2 < ((a6 + 1 : Nat) : Int)) (h4 : ¬ ((360 : Int) ≤ a2)) (h5 : a4 = a1 + a2 ∨ a1 + a2 < -2147483648 ∨ 2147483648 ≤ a1 + a2) (h6 : a5 = a0 + a2 ∨ a0 + a2 < -2147483648 ∨ 2147483648 ≤ a0 + a2) (h7 : a3 = a2 + 1 ∨ a2 + 1 < -2147483648 ∨ 2147483648 ≤ a2 + 1) (r0 : -2147483648 ≤ a0 ∧ a0 < 2147483648) (r1 : -2147483648 ≤ a1 ∧ a1 < 2147483648) (r2 : -2147483648 ≤ a2 ∧ a2 < 2147483648) (r3 : -2147483648 ≤ a3 ∧ a3 < 2147483648) (r4 : -2147483648 ≤ a4 ∧ a4 < 2147483648) (r5 : -2147483648 ≤ a5 ∧ a5 < 2147483648) : 2147483648 - a3 < ((a6 : Nat) : Int) := by first | (clear h5 h6; omega) | omega
abbrev rm_X11_copy_u : Room := { frames := 0, cells := 0, slots := 0, locals := 0 }
set_option maxHeartbeats 4000000 in
set_option maxRecDepth 100000 in
theorem c_X11_copy_u (l : Launch) (E : XE) (K : Nat → Nat) (F : Nat → Nat → Nat) (tl z0 z1 z2 z3 z4 z5 z6 z7 z8 z9 z10 z11 z12 z13 z14 z15 z16 z17 z18 z19 z20 : Int32) (ar0 ar1 ar2 ar3 ar4 ar5 ar6 ar7 ar8 ar9 ar10 : Nat → Int32) (p0 : Nat) (p1 : Int32) (p2 : Nat) (p3 : Int32) (hp0 : XO K p0 p1.toInt) (hp2 : XOu K p2 p3.toInt) : Met l yX11_copy (xw yX11_copy cX11_copy 5 none) rm_X11_copy_u (va_Pc [.ref p0, .int p1, .ref p2, .int p3] (XP E K F (tl, [z0, z1, z2, z3, z4, z5, z6, z7, z8, z9, z10, z11, z12, z13, z14, z15, z16, z17, z18, z19, z20], [ar0, ar1, ar2, ar3, ar4, ar5, ar6, ar7, ar8, ar9, ar10]))) (XQv E (fun (u : Unit) => True) (fun _ H => TW E K F (tl, [z0, z1, z2, z3, z4, z5, z6, z7, z8, z9, z10, z11, z12, z13, z14, z15, z16, z17, z18, z19, z20], [ar0, ar1, ar2, ar3, ar4, ar5, ar6, ar7, ar8, ar9, ar10]) [] H)) 0 0 (xA E) := by
  refine x_enter (by decide) (Nat.le_of_ble_eq_true rfl) ?_
  intro p e s m args below meth c Q S hr hlk hnm hQ hP ls hl
  obtain ⟨hz, hK, hT⟩ := hP
  obtain ⟨hx, hb, -, -, -⟩ := id S
  obtain ⟨H, hT, hS, hgo⟩ : ∃ H : Heap, TW E K F (tl, [z0, z1, z2, z3, z4, z5, z6, z7, z8, z9, z10, z11, z12, z13, z14, z15, z16, z17, z18, z19, z20], [ar0, ar1, ar2, ar3, ar4, ar5, ar6, ar7, ar8, ar9, ar10]) [] H ∧ va_S (xA E) s.heap H [] ∧ H = s.heap := ⟨_, hT, va_S.rf, rfl⟩
  rw [← hgo]
  have hl : lv_has ls 5 [(0, .ref p0), (1, .int p1), (2, .ref p2), (3, .int p3)] := hl
  refine lv_iconst (v := 0) hx hb dX11_copy_0 (by decide) ?_
  refine lv_istore (lv' := [(4, .int 0), (0, .ref p0), (1, .int p1), (2, .ref p2), (3, .int p3)]) hx hb dX11_copy_1 hl (by decide) rfl (fun ls hl => ?_)
  have L3 : ∀ (N2 : Nat) (x1 : Int32) (H : Heap) (locs : List Loc) (ls : Array Slot), (0 : Int) ≤ x1.toInt → 2147483648 - x1.toInt < ((N2 : Nat) : Int) → TW E K F (tl, [z0, z1, z2, z3, z4, z5, z6, z7, z8, z9, z10, z11, z12, z13, z14, z15, z16, z17, z18, z19, z20], [ar0, ar1, ar2, ar3, ar4, ar5, ar6, ar7, ar8, ar9, ar10]) [] H → va_S (xA E) s.heap H locs → lv_has ls 5 [(0, .ref p0), (1, .int p1), (2, .ref p2), (3, .int p3), (4, .int x1)] → W p l e rm_X11_copy_u s m args below meth c H locs 0 0 Q (F0 m 3 ls []) := by
    intro N2
    induction N2 with
    | zero =>
      intro x1 H locs ls hf3 hm4
      exact absurd hm4 (z_X11_copy_u_1 x1.toInt hf3 (xr x1))
    | succ N2 ih5 =>
      intro x1 H locs ls hf3 hm4 hT hS hl
      refine lv_iload hx hb dX11_copy_3 (lv_at hl 4 rfl) ?_
      refine lv_sipush (v := 360) hx hb dX11_copy_5 (by decide) ?_
      refine xi_cge (tgt := 29) hx hb (rfl : Int32.toInt x1 = x1.toInt) ((by decide) : Int32.toInt 360 = (360 : Int)) dX11_copy_8 (by decide) (fun c6 => ?_) (fun c6 => ?_)
      · exact x_rv hx hb hr hlk hQ (Nat.le_of_ble_eq_true rfl) (Nat.le_of_ble_eq_true rfl) hS dX11_copy_29 () trivial hT.nil
      · refine lv_aload_n hx hb dX11_copy_11 rfl (lv_at hl 2 rfl) ?_
        refine lv_iload_n hx hb dX11_copy_12 rfl (lv_at hl 3 rfl) ?_
        refine lv_iload hx hb dX11_copy_13 (lv_at hl 4 rfl) ?_
        refine xi_iadd hx hb (rfl : Int32.toInt p3 = p3.toInt) (rfl : Int32.toInt x1 = x1.toInt) dX11_copy_15 (fun x7 t8 => ?_)
        refine lv_aload_n hx hb dX11_copy_16 rfl (lv_at hl 0 rfl) ?_
        refine lv_iload_n hx hb dX11_copy_17 rfl (lv_at hl 1 rfl) ?_
        refine lv_iload hx hb dX11_copy_18 (lv_at hl 4 rfl) ?_
        refine xi_iadd hx hb (rfl : Int32.toInt p1 = p1.toInt) (rfl : Int32.toInt x1 = x1.toInt) dX11_copy_20 (fun x9 t10 => ?_)
        refine ald_of S hK hT hp0 (z_X11_copy_u_2 p1.toInt p3.toInt x1.toInt x7.toInt x9.toInt N2 (XO.lim hp0) (XOu.lim hp2) hf3 hm4 c6 t8 t10 (xr p1) (xr p3) (xr x1) (xr x7) (xr x9)) dX11_copy_21 (fun x11 => ?_)
        refine ast_of S hK hT hS hp2 (z_X11_copy_u_3 p1.toInt p3.toInt x1.toInt x7.toInt x9.toInt N2 (XO.lim hp0) (XOu.lim hp2) hf3 hm4 c6 t8 t10 (xr p1) (xr p3) (xr x1) (xr x7) (xr x9)) dX11_copy_22 (fun H locs hT hS => ?_)
        refine xi_iinc (n := 1) (lv' := fun z9 => [(4, .int z9), (0, .ref p0), (1, .int p1), (2, .ref p2), (3, .int p3)]) (k := 4) hx hb (rfl : Int32.toInt x1 = x1.toInt) (by decide) dX11_copy_23 hl rfl (by decide) (fun _ => rfl) (fun x12 ls t13 hl => ?_)
        have hl : lv_has ls 5 [(4, .int x12), (0, .ref p0), (1, .int p1), (2, .ref p2), (3, .int p3)] := hl
        refine lv_goto (tgt := 3) hx hb dX11_copy_26 (by decide) ?_
        exact ih5 x12 _ _ _ (z_X11_copy_u_4 p1.toInt p3.toInt x1.toInt x12.toInt x7.toInt x9.toInt N2 (XO.lim hp0) (XOu.lim hp2) hf3 hm4 c6 t8 t10 t13 (xr p1) (xr p3) (xr x1) (xr x12) (xr x7) (xr x9)) (z_X11_copy_u_5 p1.toInt p3.toInt x1.toInt x12.toInt x7.toInt x9.toInt N2 (XO.lim hp0) (XOu.lim hp2) hf3 hm4 c6 t8 t10 t13 (xr p1) (xr p3) (xr x1) (xr x12) (xr x7) (xr x9)) hT.nil hS (lv_sub hl [1, 2, 3, 4, 0] rfl)
  exact L3 4294967297 0 _ _ _ (by decide) (by decide) hT.nil hS (lv_sub hl [1, 2, 3, 4, 0] rfl)

theorem z_X11_copy_r_1 (a0 : Int) (h0 : (0 : Int) ≤ a0) (r0 : -2147483648 ≤ a0 ∧ a0 < 2147483648) : ¬ (2147483648 - a0 < ((0 : Nat) : Int)) := by omega
theorem z_X11_copy_r_2 (a0 : Int) (a1 : Int) (a2 : Int) (a3 : Int) (a4 : Int) (a5 : Nat) (h0 : a1 = 0) (h1 : 0 ≤ a0 ∧ a0 ≤ 2520) (h2 : (0 : Int) ≤ a2) (h3 : 2147483648 - a2 < ((a5 + 1 : Nat) : Int)) (h4 : ¬ ((360 : Int) ≤ a2)) (h5 : a4 = a1 + a2 ∨ a1 + a2 < -2147483648 ∨ 2147483648 ≤ a1 + a2) (h6 : a3 = a0 + a2 ∨ a0 + a2 < -2147483648 ∨ 2147483648 ≤ a0 + a2) (r0 : -2147483648 ≤ a0 ∧ a0 < 2147483648) (r1 : -2147483648 ≤ a1 ∧ a1 < 2147483648) (r2 : -2147483648 ≤ a2 ∧ a2 < 2147483648) (r3 : -2147483648 ≤ a3 ∧ a3 < 2147483648) (r4 : -2147483648 ≤ a4 ∧ a4 < 2147483648) : 0 ≤ a3 ∧ a3 < a0 + 360 := by first | (clear h5; omega) | omega
theorem z_X11_copy_r_3 (a0 : Int) (a1 : Int) (a2 : Int) (a3 : Int) (a4 : Int) (a5 : Nat) (h0 : a1 = 0) (h1 : 0 ≤ a0 ∧ a0 ≤ 2520) (h2 : (0 : Int) ≤ a2) (h3 : 2147483648 - a2 < ((a5 + 1 : Nat) : Int)) (h4 : ¬ ((360 : Int) ≤ a2)) (h5 : a4 = a1 + a2 ∨ a1 + a2 < -2147483648 ∨ 2147483648 ≤ a1 + a2) (h6 : a3 = a0 + a2 ∨ a0 + a2 < -2147483648 ∨ 2147483648 ≤ a0 + a2) (r0 : -2147483648 ≤ a0 ∧ a0 < 2147483648) (r1 : -2147483648 ≤ a1 ∧ a1 < 2147483648) (r2 : -2147483648 ≤ a2 ∧ a2 < 2147483648) (r3 : -2147483648 ≤ a3 ∧ a3 < 2147483648) (r4 : -2147483648 ≤ a4 ∧ a4 < 2147483648) : 0 ≤ a4 ∧ a4 < ((360 : Nat) : Int) := by first | (clear h6; omega) | omega
theorem z_X11_copy_r_4 (a0 : Int) (a1 : Int) (a2 : Int) (a3 : Int) (a4 : Int) (a5 : Int) (a6 : Nat) (h0 : a1 = 0) (h1 : 0 ≤ a0 ∧ a0 ≤ 2520) (h2 : (0 : Int) ≤ a2) (h3 : 2147483648 - a2 < ((a6 + 1 : Nat) : Int)) (h4 : ¬ ((360 : Int) ≤ a2)) (h5 : a5 = a1 + a2 ∨ a1 + a2 < -2147483648 ∨ 2147483648 ≤ a1 + a2) (h6 : a3 = a0 + a2 ∨ a0 + a2 < -2147483648 ∨ 2147483648 ≤ a0 + a2) (h7 : a4 = a2 + 1 ∨ a2 + 1 < -2147483648 ∨ 2147483648 ≤ a2 + 1) (r0 : -2147483648 ≤ a0 ∧ a0 < 2147483648) (r1 : -2147483648 ≤ a1 ∧ a1 < 2147483648) (r2 : -2147483648 ≤ a2 ∧ a2 < 2147483648) (r3 : -2147483648 ≤ a3 ∧ a3 < 2147483648) (r4 : -2147483648 ≤ a4 ∧ a4 < 2147483648) (r5 : -2147483648 ≤ a5 ∧ a5 < 2147483648) : (0 : Int) ≤ a4 := by first | (clear h5 h6; omega) | omega
theorem z_X11_copy_r_5 (a0 : Int) (a1 : Int) (a2 : Int) (a3 : Int) (a4 : Int) (a5 : Int) (a6 : Nat) (h0 : a1 = 0) (h1 : 0 ≤ a0 ∧ a0 ≤ 2520) (h2 : (0 : Int) ≤ a2) (h3 : 2147483648 - a2 < ((a6 + 1 : Nat) : Int)) (h4 : ¬ ((360 : Int) ≤ a2)) (h5 : a5 = a1 + a2 ∨ a1 + a2 < -2147483648 ∨ 2147483648 ≤ a1 + a2) (h6 : a3 = a0 + a2 ∨ a0 + a2 < -2147483648 ∨ 2147483648 ≤ a0 + a2) (h7 : a4 = a2 + 1 ∨ a2 + 1 < -2147483648 ∨ 2147483648 ≤ a2 + 1) (r0 : -2147483648 ≤ a0 ∧ a0 < 2147483648) (r1 : -2147483648 ≤ a1 ∧ a1 < 2147483648) (r2 : -2147483648 ≤ a2 ∧ a2 < 2147483648) (r3 : -2147483648 ≤ a3 ∧ a3 < 2147483648) (r4 : -2147483648 ≤ a4 ∧ a4 < 2147483648) (r5 : -2147483648 ≤ a5 ∧ a5 < 2147483648) : 2147483648 - a4 < ((a6 : Nat) : Int) := by first | (clear h5 h6; omega) | omega
abbrev rm_X11_copy_r : Room := { frames := 0, cells := 0, slots := 0, locals := 0 }
set_option maxHeartbeats 4000000 in
set_option maxRecDepth 100000 in
theorem c_X11_copy_r (l : Launch) (E : XE) (K : Nat → Nat) (F : Nat → Nat → Nat) (tl z0 z1 z2 z3 z4 z5 z6 z7 z8 z9 z10 z11 z12 z13 z14 z15 z16 z17 z18 z19 z20 : Int32) (ar0 ar1 ar2 ar3 ar4 ar5 ar6 ar7 ar8 ar9 ar10 : Nat → Int32) (p0 : Nat) (p1 : Int32) (p2 : Nat) (p3 : Int32) (hp0 : XO K p0 p1.toInt) (hp2 : K p2 = 30) (e0 : p3.toInt = 0) : Met l yX11_copy (xw yX11_copy cX11_copy 5 none) rm_X11_copy_r (va_Pc [.ref p0, .int p1, .ref p2, .int p3] (XP E K F (tl, [z0, z1, z2, z3, z4, z5, z6, z7, z8, z9, z10, z11, z12, z13, z14, z15, z16, z17, z18, z19, z20], [ar0, ar1, ar2, ar3, ar4, ar5, ar6, ar7, ar8, ar9, ar10]))) (XQv E (fun (u : (Nat → Int32)) => True) (fun u H => TW E K F (tl, [z0, z1, z2, z3, z4, z5, z6, z7, z8, z9, z10, z11, z12, z13, z14, z15, z16, z17, z18, z19, z20], [u, ar1, ar2, ar3, ar4, ar5, ar6, ar7, ar8, ar9, ar10]) [] H)) 0 0 (xA E) := by
  refine x_enter (by decide) (Nat.le_of_ble_eq_true rfl) ?_
  intro p e s m args below meth c Q S hr hlk hnm hQ hP ls hl
  obtain ⟨hz, hK, hT⟩ := hP
  obtain ⟨hx, hb, -, -, -⟩ := id S
  obtain ⟨H, hT, hS, hgo⟩ : ∃ H : Heap, TW E K F (tl, [z0, z1, z2, z3, z4, z5, z6, z7, z8, z9, z10, z11, z12, z13, z14, z15, z16, z17, z18, z19, z20], [ar0, ar1, ar2, ar3, ar4, ar5, ar6, ar7, ar8, ar9, ar10]) [] H ∧ va_S (xA E) s.heap H [] ∧ H = s.heap := ⟨_, hT, va_S.rf, rfl⟩
  rw [← hgo]
  have hl : lv_has ls 5 [(0, .ref p0), (1, .int p1), (2, .ref p2), (3, .int p3)] := hl
  refine lv_iconst (v := 0) hx hb dX11_copy_0 (by decide) ?_
  refine lv_istore (lv' := [(4, .int 0), (0, .ref p0), (1, .int p1), (2, .ref p2), (3, .int p3)]) hx hb dX11_copy_1 hl (by decide) rfl (fun ls hl => ?_)
  have L3 : ∀ (N3 : Nat) (x1 : Int32) (f2 : Nat → Int32) (H : Heap) (locs : List Loc) (ls : Array Slot), (0 : Int) ≤ x1.toInt → 2147483648 - x1.toInt < ((N3 : Nat) : Int) → TW E K F (tl, [z0, z1, z2, z3, z4, z5, z6, z7, z8, z9, z10, z11, z12, z13, z14, z15, z16, z17, z18, z19, z20], [f2, ar1, ar2, ar3, ar4, ar5, ar6, ar7, ar8, ar9, ar10]) [] H → va_S (xA E) s.heap H locs → lv_has ls 5 [(0, .ref p0), (1, .int p1), (2, .ref p2), (3, .int p3), (4, .int x1)] → W p l e rm_X11_copy_r s m args below meth c H locs 0 0 Q (F0 m 3 ls []) := by
    intro N3
    induction N3 with
    | zero =>
      intro x1 f2 H locs ls hf4 hm5
      exact absurd hm5 (z_X11_copy_r_1 x1.toInt hf4 (xr x1))
    | succ N3 ih6 =>
      intro x1 f2 H locs ls hf4 hm5 hT hS hl
      refine lv_iload hx hb dX11_copy_3 (lv_at hl 4 rfl) ?_
      refine lv_sipush (v := 360) hx hb dX11_copy_5 (by decide) ?_
      refine xi_cge (tgt := 29) hx hb (rfl : Int32.toInt x1 = x1.toInt) ((by decide) : Int32.toInt 360 = (360 : Int)) dX11_copy_8 (by decide) (fun c7 => ?_) (fun c7 => ?_)
      · exact x_rv hx hb hr hlk hQ (Nat.le_of_ble_eq_true rfl) (Nat.le_of_ble_eq_true rfl) hS dX11_copy_29 (f2) trivial hT.nil
      · refine lv_aload_n hx hb dX11_copy_11 rfl (lv_at hl 2 rfl) ?_
        refine lv_iload_n hx hb dX11_copy_12 rfl (lv_at hl 3 rfl) ?_
        refine lv_iload hx hb dX11_copy_13 (lv_at hl 4 rfl) ?_
        refine xi_iadd hx hb (rfl : Int32.toInt p3 = p3.toInt) (rfl : Int32.toInt x1 = x1.toInt) dX11_copy_15 (fun x8 t9 => ?_)
        refine lv_aload_n hx hb dX11_copy_16 rfl (lv_at hl 0 rfl) ?_
        refine lv_iload_n hx hb dX11_copy_17 rfl (lv_at hl 1 rfl) ?_
        refine lv_iload hx hb dX11_copy_18 (lv_at hl 4 rfl) ?_
        refine xi_iadd hx hb (rfl : Int32.toInt p1 = p1.toInt) (rfl : Int32.toInt x1 = x1.toInt) dX11_copy_20 (fun x10 t11 => ?_)
        refine ald_of S hK hT hp0 (z_X11_copy_r_2 p1.toInt p3.toInt x1.toInt x10.toInt x8.toInt N3 e0 (XO.lim hp0) hf4 hm5 c7 t9 t11 (xr p1) (xr p3) (xr x1) (xr x10) (xr x8)) dX11_copy_21 (fun x12 => ?_)
        refine tst_0 S hK hT hS hp2 (at_30 (f := f2) rfl) (fun _ => bt_30 (Nat.le_of_ble_eq_true rfl)) (by decide) (by decide) xti_30 (z_X11_copy_r_3 p1.toInt p3.toInt x1.toInt x10.toInt x8.toInt N3 e0 (XO.lim hp0) hf4 hm5 c7 t9 t11 (xr p1) (xr p3) (xr x1) (xr x10) (xr x8)) dX11_copy_22 (fun f13 H locs hu14 hT hS => ?_)
        have hT : TW E K F (tl, [z0, z1, z2, z3, z4, z5, z6, z7, z8, z9, z10, z11, z12, z13, z14, z15, z16, z17, z18, z19, z20], [f13, ar1, ar2, ar3, ar4, ar5, ar6, ar7, ar8, ar9, ar10]) [] H := hT
        refine xi_iinc (n := 1) (lv' := fun z9 => [(4, .int z9), (0, .ref p0), (1, .int p1), (2, .ref p2), (3, .int p3)]) (k := 4) hx hb (rfl : Int32.toInt x1 = x1.toInt) (by decide) dX11_copy_23 hl rfl (by decide) (fun _ => rfl) (fun x15 ls t16 hl => ?_)
        have hl : lv_has ls 5 [(4, .int x15), (0, .ref p0), (1, .int p1), (2, .ref p2), (3, .int p3)] := hl
        refine lv_goto (tgt := 3) hx hb dX11_copy_26 (by decide) ?_
        exact ih6 x15 f13 _ _ _ (z_X11_copy_r_4 p1.toInt p3.toInt x1.toInt x10.toInt x15.toInt x8.toInt N3 e0 (XO.lim hp0) hf4 hm5 c7 t9 t11 t16 (xr p1) (xr p3) (xr x1) (xr x10) (xr x15) (xr x8)) (z_X11_copy_r_5 p1.toInt p3.toInt x1.toInt x10.toInt x15.toInt x8.toInt N3 e0 (XO.lim hp0) hf4 hm5 c7 t9 t11 t16 (xr p1) (xr p3) (xr x1) (xr x10) (xr x15) (xr x8)) hT.nil hS (lv_sub hl [1, 2, 3, 4, 0] rfl)
  exact L3 4294967297 0 ar0 _ _ _ (by decide) (by decide) hT.nil hS (lv_sub hl [1, 2, 3, 4, 0] rfl)

abbrev rm_X11_start : Room := { frames := 4, cells := 0, slots := 0, locals := 102 }
set_option maxHeartbeats 4000000 in
set_option maxRecDepth 100000 in
theorem c_X11_start (l : Launch) (E : XE) (K : Nat → Nat) (F : Nat → Nat → Nat) (tl z0 z1 z2 z3 z4 z5 z6 z7 z8 z9 z10 z11 z12 z13 z14 z15 z16 z17 z18 z19 z20 : Int32) (ar0 ar1 ar2 ar3 ar4 ar5 ar6 ar7 ar8 ar9 ar10 : Nat → Int32) (a : Nat) (ha : K a = 13) (hR : RV ar1) : Met l yX11_start (xw yX11_start cX11_start 1 none) rm_X11_start (va_Pc [.ref a] (XP E K F (tl, [z0, z1, z2, z3, z4, z5, z6, z7, z8, z9, z10, z11, z12, z13, z14, z15, z16, z17, z18, z19, z20], [ar0, ar1, ar2, ar3, ar4, ar5, ar6, ar7, ar8, ar9, ar10]))) (XQv E (fun (u : Unit) => True) (fun _ H => TW E K F (tl, [z0, z1, z2, z3, z4, z5, z6, z7, z8, z9, z10, z11, z12, z13, z14, z15, z16, z17, z18, z19, z20], [ar0, ar1, ar2, ar3, ar4, ar5, ar6, ar7, ar8, ar9, ar10]) [] H)) 0 0 (xA E) := by
  refine x_enter (by decide) (Nat.le_of_ble_eq_true rfl) ?_
  intro p e s m args below meth c Q S hr hlk hnm hQ hP ls hl
  obtain ⟨hz, hK, hT⟩ := hP
  obtain ⟨hx, hb, -, -, -⟩ := id S
  obtain ⟨H, hT, hS, hgo⟩ : ∃ H : Heap, TW E K F (tl, [z0, z1, z2, z3, z4, z5, z6, z7, z8, z9, z10, z11, z12, z13, z14, z15, z16, z17, z18, z19, z20], [ar0, ar1, ar2, ar3, ar4, ar5, ar6, ar7, ar8, ar9, ar10]) [] H ∧ va_S (xA E) s.heap H [] ∧ H = s.heap := ⟨_, hT, va_S.rf, rfl⟩
  rw [← hgo]
  have hl : lv_has ls 1 [(0, .ref a)] := hl
  refine lv_aload_n hx hb dX11_start_0 rfl (lv_at hl 0 rfl) ?_
  refine gX11_1 S hK hT ha kf_X11_9 dX11_start_1 (fun hk1 => ?_)
  refine lv_iconst (v := 0) hx hb dX11_start_4 (by decide) ?_
  refine lv_aload_n hx hb dX11_start_5 rfl (lv_at hl 0 rfl) ?_
  refine gX11_4 S hK hT ha kf_X11_21 dX11_start_6 (fun hk2 => ?_)
  refine lv_iconst (v := 0) hx hb dX11_start_9 (by decide) ?_
  refine x_cv0 (x_runS (As := [.ref (F a 1), .int 0, .ref (F a 4), .int 0]) (rest := []) S (c_X11_copy_u l E K F tl z0 z1 z2 z3 z4 z5 z6 z7 z8 z9 z10 z11 z12 z13 z14 z15 z16 z17 z18 z19 z20 ar0 ar1 ar2 ar3 ar4 ar5 ar6 ar7 ar8 ar9 ar10 (F a 1) 0 (F a 4) 0 (XO.a hk1 (by decide)) (XOu.b hk2 (by decide))) ms_X11_copy km_X11_309 rfl rfl ⟨Nat.le_of_ble_eq_true rfl, Nat.le_of_ble_eq_true rfl⟩ hK (fun _ => XP.blind) (fun U hU hW => XP.at hK hz hS hT hU hW) rfl hl.1 (Nat.le_of_ble_eq_true rfl) dX11_start_10 ⟨Nat.le_of_ble_eq_true rfl, Nat.le_of_ble_eq_true rfl⟩) hS ?_
  rintro _ H locs - hT hS
  refine lv_aload_n hx hb dX11_start_13 rfl (lv_at hl 0 rfl) ?_
  refine lv_aload_n hx hb dX11_start_14 rfl (lv_at hl 0 rfl) ?_
  refine gX11_12 S hK hT ha kf_X11_39 dX11_start_15 (fun hk5 => ?_)
  refine lv_aload_n hx hb dX11_start_18 rfl (lv_at hl 0 rfl) ?_
  refine gX11_1 S hK hT ha kf_X11_9 dX11_start_19 (fun hk6 => ?_)
  refine lv_iconst (v := 0) hx hb dX11_start_22 (by decide) ?_
  refine x_cv0 (x_runV (b := a) (As := [.ref (F a 12), .ref (F a 1), .int 0]) (rest := []) S (c_X11_layStates l E K F tl z0 z1 z2 z3 z4 z5 z6 z7 z8 z9 z10 z11 z12 z13 z14 z15 z16 z17 z18 z19 z20 ar0 ar1 ar2 ar3 ar4 ar5 ar6 ar7 ar8 ar9 ar10 a (F a 12) (F a 1) 0 ha hk5 (XO.a hk6 (by decide)) hR) mv_X11_layStates km_X11_210 rfl rfl ⟨Nat.le_of_ble_eq_true rfl, Nat.le_of_ble_eq_true rfl⟩ (rc_13 hK hT ha) hK (fun _ => XP.blind) (fun U hU hW => XP.at hK hz hS hT hU hW) rfl hl.1 (Nat.le_of_ble_eq_true rfl) dX11_start_23 ⟨Nat.le_of_ble_eq_true rfl, Nat.le_of_ble_eq_true rfl⟩) hS ?_
  rintro _ H locs - hT hS
  exact x_rv hx hb hr hlk hQ (Nat.le_of_ble_eq_true rfl) (Nat.le_of_ble_eq_true rfl) hS dX11_start_26 () trivial hT.nil

theorem z_X11_asks_1 (a0 : Int) (a1 : Nat) (h0 : 0 ≤ a0 ∧ a0 ≤ 2388 ∧ a0 ≤ ((a1 : Nat) : Int)) (r0 : -2147483648 ≤ a0 ∧ a0 < 2147483648) : 0 ≤ a0 ∧ a0 ≤ 2388 ∧ a0 ≤ ((a1 : Nat) : Int) := by omega
theorem z_X11_asks_2 (a0 : Int) (a1 : Int) (a2 : Nat) (h0 : 0 ≤ a0 ∧ a0 ≤ 2388 ∧ a0 ≤ ((a2 : Nat) : Int)) (h1 : a1 = -1 ∨ (0 ≤ a1 ∧ a1 < a0)) (r0 : -2147483648 ≤ a0 ∧ a0 < 2147483648) (r1 : -2147483648 ≤ a1 ∧ a1 < 2147483648) : 0 ≤ a0 ∧ a0 ≤ 2388 ∧ a0 ≤ ((a2 : Nat) : Int) ∧ (a1 = -1 ∨ (0 ≤ a1 ∧ a1 < a0)) := by omega
abbrev rm_X11_asks : Room := { frames := 5, cells := 0, slots := 0, locals := 125 }
set_option maxHeartbeats 4000000 in
set_option maxRecDepth 100000 in
theorem c_X11_asks (l : Launch) (E : XE) (K : Nat → Nat) (F : Nat → Nat → Nat) (tl z0 z1 z2 z3 z4 z5 z6 z7 z8 z9 z10 z11 z12 z13 z14 z15 z16 z17 z18 z19 z20 : Int32) (ar0 ar1 ar2 ar3 ar4 ar5 ar6 ar7 ar8 ar9 ar10 : Nat → Int32) (a : Nat) (p0 : Int32) (ha : K a = 13) (hR : RV ar1) : Met l yX11_asks (xw yX11_asks cX11_asks 2 (some .int)) rm_X11_asks (va_Pc [.ref a, .int p0] (XP E K F (tl, [z0, z1, z2, z3, z4, z5, z6, z7, z8, z9, z10, z11, z12, z13, z14, z15, z16, z17, z18, z19, z20], [ar0, ar1, ar2, ar3, ar4, ar5, ar6, ar7, ar8, ar9, ar10]))) (XQ E (fun v (u : Int32 × Int32 × (Nat → Int32) × (Nat → Int32) × (Nat → Int32)) => ∃ r : Int32, v = .int r ∧ (0 ≤ u.2.1.toInt ∧ u.2.1.toInt ≤ 2388 ∧ u.2.1.toInt ≤ (((fV ar1 u.2.2.2.1 u.2.2.2.2) : Nat) : Int) ∧ (r.toInt = -1 ∨ (0 ≤ r.toInt ∧ r.toInt < u.2.1.toInt)))) (fun u H => TW E K F (tl, [z0, z1, z2, u.1, u.2.1, z5, z6, z7, z8, z9, z10, z11, z12, z13, z14, z15, z16, z17, z18, z19, z20], [ar0, ar1, u.2.2.1, u.2.2.2.1, u.2.2.2.2, ar5, ar6, ar7, ar8, ar9, ar10]) [] H)) 0 0 (xA E) := by
  refine x_enter (by decide) (Nat.le_of_ble_eq_true rfl) ?_
  intro p e s m args below meth c Q S hr hlk hnm hQ hP ls hl
  obtain ⟨hz, hK, hT⟩ := hP
  obtain ⟨hx, hb, -, -, -⟩ := id S
  obtain ⟨H, hT, hS, hgo⟩ : ∃ H : Heap, TW E K F (tl, [z0, z1, z2, z3, z4, z5, z6, z7, z8, z9, z10, z11, z12, z13, z14, z15, z16, z17, z18, z19, z20], [ar0, ar1, ar2, ar3, ar4, ar5, ar6, ar7, ar8, ar9, ar10]) [] H ∧ va_S (xA E) s.heap H [] ∧ H = s.heap := ⟨_, hT, va_S.rf, rfl⟩
  rw [← hgo]
  have hl : lv_has ls 2 [(0, .ref a), (1, .int p0)] := hl
  refine lv_aload_n hx hb dX11_asks_0 rfl (lv_at hl 0 rfl) ?_
  refine lv_iload_n hx hb dX11_asks_1 rfl (lv_at hl 1 rfl) ?_
  refine lv_aload_n hx hb dX11_asks_2 rfl (lv_at hl 0 rfl) ?_
  refine gX11_12 S hK hT ha kf_X11_39 dX11_asks_3 (fun hk1 => ?_)
  refine lv_aload_n hx hb dX11_asks_6 rfl (lv_at hl 0 rfl) ?_
  refine gX11_11 S hK hT ha kf_X11_36 dX11_asks_7 (fun hk2 => ?_)
  refine x_cv0 (x_runV (b := a) (As := [.int p0, .ref (F a 12), .ref (F a 11)]) (rest := []) S (c_X11_findUnlike l E K F tl z0 z1 z2 z3 z4 z5 z6 z7 z8 z9 z10 z11 z12 z13 z14 z15 z16 z17 z18 z19 z20 ar0 ar1 ar2 ar3 ar4 ar5 ar6 ar7 ar8 ar9 ar10 a p0 (F a 12) (F a 11) ha hk1 hk2 hR) mv_X11_findUnlike km_X11_214 rfl rfl ⟨Nat.le_of_ble_eq_true rfl, Nat.le_of_ble_eq_true rfl⟩ (rc_13 hK hT ha) hK (fun _ => XP.blind) (fun U hU hW => XP.at hK hz hS hT hU hW) rfl hl.1 (Nat.le_of_ble_eq_true rfl) dX11_asks_10 ⟨Nat.le_of_ble_eq_true rfl, Nat.le_of_ble_eq_true rfl⟩) hS ?_
  rintro ⟨u3, u4, f5, f6, f7⟩ H locs t8 hT hS
  have hT : TW E K F (tl, [z0, z1, z2, u3, u4, z5, z6, z7, z8, z9, z10, z11, z12, z13, z14, z15, z16, z17, z18, z19, z20], [ar0, ar1, f5, f6, f7, ar5, ar6, ar7, ar8, ar9, ar10]) [] H := hT
  have t8 : 0 ≤ u4.toInt ∧ u4.toInt ≤ 2388 ∧ u4.toInt ≤ (((fV ar1 f6 f7) : Nat) : Int) := t8
  refine lv_aload_n hx hb dX11_asks_13 rfl (lv_at hl 0 rfl) ?_
  refine x_clp (x_runV (b := a) (As := []) (rest := []) S (c_X11_firstFailing l E K F tl z0 z1 z2 u3 u4 z5 z6 z7 z8 z9 z10 z11 z12 z13 z14 z15 z16 z17 z18 z19 z20 ar0 ar1 f5 f6 f7 ar5 ar6 ar7 ar8 ar9 ar10 H a ha hR (z_X11_asks_1 u4.toInt (fV ar1 f6 f7) t8 (xr u4))) mv_X11_firstFailing km_X11_313 rfl rfl ⟨Nat.le_of_ble_eq_true rfl, Nat.le_of_ble_eq_true rfl⟩ (rc_13 hK hT ha) hK (fun _ => XPh.blind) (fun U hU hW => XPh.at hK hz hS hT hU hW) rfl hl.1 (Nat.le_of_ble_eq_true rfl) dX11_asks_14 ⟨Nat.le_of_ble_eq_true rfl, Nat.le_of_ble_eq_true rfl⟩) hS ?_
  rintro _ _ locs ⟨x12, rfl, t11⟩ hS
  have t11 : x12.toInt = -1 ∨ (0 ≤ x12.toInt ∧ x12.toInt < u4.toInt) := t11
  exact x_ri hx hb hr hlk hQ (Nat.le_of_ble_eq_true rfl) (Nat.le_of_ble_eq_true rfl) hS dX11_asks_17 (u3, u4, f5, f6, f7) ⟨_, rfl, (z_X11_asks_2 u4.toInt x12.toInt (fV ar1 f6 f7) t8 t11 (xr u4) (xr x12))⟩ hT.nil

theorem z_X11_look_1 (a0 : Int) (a1 : Int) (a2 : Nat) (h0 : 0 ≤ a0) (h1 : a0 ≤ 2388) (h2 : a0 ≤ ((a2 : Nat) : Int)) (h3 : a1 = -1 ∨ (0 ≤ a1 ∧ a1 < a0)) (r0 : -2147483648 ≤ a0 ∧ a0 < 2147483648) (r1 : -2147483648 ≤ a1 ∧ a1 < 2147483648) : 0 ≤ a0 ∧ a0 ≤ 2388 ∧ a0 ≤ ((a2 : Nat) : Int) ∧ a1 = a1 ∧ (a1 = -1 ∨ (0 ≤ a1 ∧ a1 < a0)) := by omega
abbrev rm_X11_look : Room := { frames := 6, cells := 0, slots := 0, locals := 146 }
set_option maxHeartbeats 4000000 in
set_option maxRecDepth 100000 in
theorem c_X11_look (l : Launch) (E : XE) (K : Nat → Nat) (F : Nat → Nat → Nat) (tl z0 z1 z2 z3 z4 z5 z6 z7 z8 z9 z10 z11 z12 z13 z14 z15 z16 z17 z18 z19 z20 : Int32) (ar0 ar1 ar2 ar3 ar4 ar5 ar6 ar7 ar8 ar9 ar10 : Nat → Int32) (a : Nat) (ha : K a = 13) (hR : RV ar1) : Met l yX11_look (xw yX11_look cX11_look 1 (some .int)) rm_X11_look (va_Pc [.ref a] (XP E K F (tl, [z0, z1, z2, z3, z4, z5, z6, z7, z8, z9, z10, z11, z12, z13, z14, z15, z16, z17, z18, z19, z20], [ar0, ar1, ar2, ar3, ar4, ar5, ar6, ar7, ar8, ar9, ar10]))) (XQ E (fun v (u : Int32 × Int32 × Int32 × Int32 × (Nat → Int32) × (Nat → Int32) × (Nat → Int32)) => ∃ r : Int32, v = .int r ∧ (0 ≤ u.2.1.toInt ∧ u.2.1.toInt ≤ 2388 ∧ u.2.1.toInt ≤ (((fV ar1 u.2.2.2.2.2.1 u.2.2.2.2.2.2) : Nat) : Int) ∧ u.2.2.2.1.toInt = r.toInt ∧ (r.toInt = -1 ∨ (0 ≤ r.toInt ∧ r.toInt < u.2.1.toInt)))) (fun u H => TW E K F (tl, [z0, z1, z2, u.1, u.2.1, z5, z6, z7, z8, z9, z10, z11, z12, z13, u.2.2.1, u.2.2.2.1, z16, z17, z18, z19, z20], [ar0, ar1, u.2.2.2.2.1, u.2.2.2.2.2.1, u.2.2.2.2.2.2, ar5, ar6, ar7, ar8, ar9, ar10]) [] H)) 0 0 (xA E) := by
  refine x_enter (by decide) (Nat.le_of_ble_eq_true rfl) ?_
  intro p e s m args below meth c Q S hr hlk hnm hQ hP ls hl
  obtain ⟨hz, hK, hT⟩ := hP
  obtain ⟨hx, hb, -, -, -⟩ := id S
  obtain ⟨H, hT, hS, hgo⟩ : ∃ H : Heap, TW E K F (tl, [z0, z1, z2, z3, z4, z5, z6, z7, z8, z9, z10, z11, z12, z13, z14, z15, z16, z17, z18, z19, z20], [ar0, ar1, ar2, ar3, ar4, ar5, ar6, ar7, ar8, ar9, ar10]) [] H ∧ va_S (xA E) s.heap H [] ∧ H = s.heap := ⟨_, hT, va_S.rf, rfl⟩
  rw [← hgo]
  have hl : lv_has ls 1 [(0, .ref a)] := hl
  refine lv_aload_n hx hb dX11_look_0 rfl (lv_at hl 0 rfl) ?_
  refine lv_aload_n hx hb dX11_look_1 rfl (lv_at hl 0 rfl) ?_
  refine gX11_11 S hK hT ha kf_X11_36 dX11_look_2 (fun hk1 => ?_)
  refine lv_aload_n hx hb dX11_look_5 rfl (lv_at hl 0 rfl) ?_
  refine gX11_1 S hK hT ha kf_X11_9 dX11_look_6 (fun hk2 => ?_)
  refine lv_iconst (v := 0) hx hb dX11_look_9 (by decide) ?_
  refine x_cv0 (x_runV (b := a) (As := [.ref (F a 11), .ref (F a 1), .int 0]) (rest := []) S (c_X11_layStates l E K F tl z0 z1 z2 z3 z4 z5 z6 z7 z8 z9 z10 z11 z12 z13 z14 z15 z16 z17 z18 z19 z20 ar0 ar1 ar2 ar3 ar4 ar5 ar6 ar7 ar8 ar9 ar10 a (F a 11) (F a 1) 0 ha hk1 (XO.a hk2 (by decide)) hR) mv_X11_layStates km_X11_210 rfl rfl ⟨Nat.le_of_ble_eq_true rfl, Nat.le_of_ble_eq_true rfl⟩ (rc_13 hK hT ha) hK (fun _ => XP.blind) (fun U hU hW => XP.at hK hz hS hT hU hW) rfl hl.1 (Nat.le_of_ble_eq_true rfl) dX11_look_10 ⟨Nat.le_of_ble_eq_true rfl, Nat.le_of_ble_eq_true rfl⟩) hS ?_
  rintro _ H locs - hT hS
  refine lv_aload_n hx hb dX11_look_13 rfl (lv_at hl 0 rfl) ?_
  refine lv_iconst (v := 2) hx hb dX11_look_14 (by decide) ?_
  refine lv_aload_n hx hb dX11_look_15 rfl (lv_at hl 0 rfl) ?_
  refine gX11_12 S hK hT ha kf_X11_39 dX11_look_16 (fun hk5 => ?_)
  refine lv_aload_n hx hb dX11_look_19 rfl (lv_at hl 0 rfl) ?_
  refine gX11_11 S hK hT ha kf_X11_36 dX11_look_20 (fun hk6 => ?_)
  refine x_cv0 (x_runV (b := a) (As := [.int 2, .ref (F a 12), .ref (F a 11)]) (rest := []) S (c_X11_findUnlike l E K F tl z0 z1 z2 z3 z4 z5 z6 z7 z8 z9 z10 z11 z12 z13 z14 z15 z16 z17 z18 z19 z20 ar0 ar1 ar2 ar3 ar4 ar5 ar6 ar7 ar8 ar9 ar10 a 2 (F a 12) (F a 11) ha hk5 hk6 hR) mv_X11_findUnlike km_X11_214 rfl rfl ⟨Nat.le_of_ble_eq_true rfl, Nat.le_of_ble_eq_true rfl⟩ (rc_13 hK hT ha) hK (fun _ => XP.blind) (fun U hU hW => XP.at hK hz hS hT hU hW) rfl hl.1 (Nat.le_of_ble_eq_true rfl) dX11_look_23 ⟨Nat.le_of_ble_eq_true rfl, Nat.le_of_ble_eq_true rfl⟩) hS ?_
  rintro ⟨u7, u8, f9, f10, f11⟩ H locs t12 hT hS
  have hT : TW E K F (tl, [z0, z1, z2, u7, u8, z5, z6, z7, z8, z9, z10, z11, z12, z13, z14, z15, z16, z17, z18, z19, z20], [ar0, ar1, f9, f10, f11, ar5, ar6, ar7, ar8, ar9, ar10]) [] H := hT
  have t12 : 0 ≤ u8.toInt ∧ u8.toInt ≤ 2388 ∧ u8.toInt ≤ (((fV ar1 f10 f11) : Nat) : Int) := t12
  refine lv_aload_n hx hb dX11_look_26 rfl (lv_at hl 0 rfl) ?_
  refine lv_aload_n hx hb dX11_look_27 rfl (lv_at hl 0 rfl) ?_
  refine gX11_19 S hK hT ha kf_X11_203 dX11_look_28 (v := u8) rfl ?_
  refine pX11_45 (kq := []) (v := u8) S hK hT hS ha kf_X11_316 (Nat.le_of_ble_eq_true rfl) dX11_look_31 (fun _ h => by cases h) (fun H locs hT hS => ?_)
  have hT : TW E K F (tl, [z0, z1, z2, u7, u8, z5, z6, z7, z8, z9, z10, z11, z12, z13, u8, z15, z16, z17, z18, z19, z20], [ar0, ar1, f9, f10, f11, ar5, ar6, ar7, ar8, ar9, ar10]) [] H := hT
  refine lv_aload_n hx hb dX11_look_34 rfl (lv_at hl 0 rfl) ?_
  refine lv_aload_n hx hb dX11_look_35 rfl (lv_at hl 0 rfl) ?_
  refine lv_iconst (v := 0) hx hb dX11_look_36 (by decide) ?_
  refine x_cl0 (x_runV (b := a) (As := [.int 0]) (rest := [.ref a]) S (c_X11_asks l E K F tl z0 z1 z2 u7 u8 z5 z6 z7 z8 z9 z10 z11 z12 z13 u8 z15 z16 z17 z18 z19 z20 ar0 ar1 f9 f10 f11 ar5 ar6 ar7 ar8 ar9 ar10 a 0 ha hR) mv_X11_asks km_X11_319 rfl rfl ⟨Nat.le_of_ble_eq_true rfl, Nat.le_of_ble_eq_true rfl⟩ (rc_13 hK hT ha) hK (fun _ => XP.blind) (fun U hU hW => XP.at hK hz hS hT hU hW) rfl hl.1 (Nat.le_of_ble_eq_true rfl) dX11_look_37 ⟨Nat.le_of_ble_eq_true rfl, Nat.le_of_ble_eq_true rfl⟩) hS ?_
  rintro _ ⟨u15, u16, f17, f18, f19⟩ H locs ⟨x21, rfl, t20⟩ hT hS
  have hT : TW E K F (tl, [z0, z1, z2, u15, u16, z5, z6, z7, z8, z9, z10, z11, z12, z13, u8, z15, z16, z17, z18, z19, z20], [ar0, ar1, f17, f18, f19, ar5, ar6, ar7, ar8, ar9, ar10]) [] H := hT
  have t20 : 0 ≤ u16.toInt ∧ u16.toInt ≤ 2388 ∧ u16.toInt ≤ (((fV ar1 f18 f19) : Nat) : Int) ∧ (x21.toInt = -1 ∨ (0 ≤ x21.toInt ∧ x21.toInt < u16.toInt)) := t20
  refine pX11_46 (kq := []) (v := x21) S hK hT hS ha kf_X11_322 (Nat.le_of_ble_eq_true rfl) dX11_look_40 (fun _ h => by cases h) (fun H locs hT hS => ?_)
  have hT : TW E K F (tl, [z0, z1, z2, u15, u16, z5, z6, z7, z8, z9, z10, z11, z12, z13, u8, x21, z16, z17, z18, z19, z20], [ar0, ar1, f17, f18, f19, ar5, ar6, ar7, ar8, ar9, ar10]) [] H := hT
  refine lv_aload_n hx hb dX11_look_43 rfl (lv_at hl 0 rfl) ?_
  refine gX11_46 S hK hT ha kf_X11_322 dX11_look_44 (v := x21) rfl ?_
  exact x_ri hx hb hr hlk hQ (Nat.le_of_ble_eq_true rfl) (Nat.le_of_ble_eq_true rfl) hS dX11_look_47 (u15, u16, u8, x21, f17, f18, f19) ⟨_, rfl, (z_X11_look_1 u16.toInt x21.toInt (fV ar1 f18 f19) (t20).1 (t20).2.1 (t20).2.2.1 (t20).2.2.2 (xr u16) (xr x21))⟩ hT.nil

abbrev rm_X11_refuses : Room := { frames := 0, cells := 0, slots := 0, locals := 0 }
set_option maxHeartbeats 4000000 in
set_option maxRecDepth 100000 in
theorem c_X11_refuses (l : Launch) (E : XE) (K : Nat → Nat) (F : Nat → Nat → Nat) (tl z0 z1 z2 z3 z4 z5 z6 z7 z8 z9 z10 z11 z12 z13 z14 z15 z16 z17 z18 z19 z20 : Int32) (ar0 ar1 ar2 ar3 ar4 ar5 ar6 ar7 ar8 ar9 ar10 : Nat → Int32) (a : Nat) (p0 : Int32) (ha : K a = 13) : Met l yX11_refuses (xw yX11_refuses cX11_refuses 2 (some .int)) rm_X11_refuses (va_Pc [.ref a, .int p0] (XP E K F (tl, [z0, z1, z2, z3, z4, z5, z6, z7, z8, z9, z10, z11, z12, z13, z14, z15, z16, z17, z18, z19, z20], [ar0, ar1, ar2, ar3, ar4, ar5, ar6, ar7, ar8, ar9, ar10]))) (XQ E (fun v (u : Unit) => ∃ r : Int32, v = .int r) (fun _ H => TW E K F (tl, [z0, z1, z2, z3, z4, z5, z6, z7, z8, z9, z10, z11, z12, z13, z14, z15, z16, z17, z18, z19, z20], [ar0, ar1, ar2, ar3, ar4, ar5, ar6, ar7, ar8, ar9, ar10]) [] H)) 0 0 (xA E) := by
  refine x_enter (by decide) (Nat.le_of_ble_eq_true rfl) ?_
  intro p e s m args below meth c Q S hr hlk hnm hQ hP ls hl
  obtain ⟨hz, hK, hT⟩ := hP
  obtain ⟨hx, hb, -, -, -⟩ := id S
  obtain ⟨H, hT, hS, hgo⟩ : ∃ H : Heap, TW E K F (tl, [z0, z1, z2, z3, z4, z5, z6, z7, z8, z9, z10, z11, z12, z13, z14, z15, z16, z17, z18, z19, z20], [ar0, ar1, ar2, ar3, ar4, ar5, ar6, ar7, ar8, ar9, ar10]) [] H ∧ va_S (xA E) s.heap H [] ∧ H = s.heap := ⟨_, hT, va_S.rf, rfl⟩
  rw [← hgo]
  have hl : lv_has ls 2 [(0, .ref a), (1, .int p0)] := hl
  refine lv_aload_n hx hb dX11_refuses_0 rfl (lv_at hl 0 rfl) ?_
  refine gX11_8 S hK hT ha kf_X11_27 dX11_refuses_1 (fun hk1 => ?_)
  refine lv_iconst (v := 5) hx hb dX11_refuses_4 (by decide) ?_
  refine lv_dup2_11 hx hb dX11_refuses_5 rfl rfl ?_
  refine al_0 S hK hT hk1 ar_35 (by decide) (by decide) dX11_refuses_6 (fun x2 o3 => ?_)
  refine lv_aload_n hx hb dX11_refuses_7 rfl (lv_at hl 0 rfl) ?_
  refine gX11_6 S hK hT ha kf_X11_206 dX11_refuses_8 (v := z1) rfl ?_
  refine xi_zeq (tgt := 18) hx hb (rfl : Int32.toInt z1 = z1.toInt) dX11_refuses_11 (by decide) (fun c4 => ?_) (fun c4 => ?_)
  · refine lv_iconst (v := 0) hx hb dX11_refuses_18 (by decide) ?_
    refine xi_iadd hx hb (rfl : Int32.toInt x2 = x2.toInt) ((by decide) : Int32.toInt 0 = (0 : Int)) dX11_refuses_19 (fun x5 t6 => ?_)
    refine as_0 S hK hT hS hk1 ar_35 aw_35 (by decide) (by decide) dX11_refuses_20 (fun H locs hT hS => ?_)
    refine lv_iload_n hx hb dX11_refuses_21 rfl (lv_at hl 1 rfl) ?_
    exact x_ri hx hb hr hlk hQ (Nat.le_of_ble_eq_true rfl) (Nat.le_of_ble_eq_true rfl) hS dX11_refuses_22 () ⟨_, rfl⟩ hT.nil
  · refine lv_iconst (v := 1) hx hb dX11_refuses_14 (by decide) ?_
    refine lv_goto (tgt := 19) hx hb dX11_refuses_15 (by decide) ?_
    refine xi_iadd hx hb (rfl : Int32.toInt x2 = x2.toInt) ((by decide) : Int32.toInt 1 = (1 : Int)) dX11_refuses_19 (fun x7 t8 => ?_)
    refine as_0 S hK hT hS hk1 ar_35 aw_35 (by decide) (by decide) dX11_refuses_20 (fun H locs hT hS => ?_)
    refine lv_iload_n hx hb dX11_refuses_21 rfl (lv_at hl 1 rfl) ?_
    exact x_ri hx hb hr hlk hQ (Nat.le_of_ble_eq_true rfl) (Nat.le_of_ble_eq_true rfl) hS dX11_refuses_22 () ⟨_, rfl⟩ hT.nil

theorem z_X11_goesBack_1 (a0 : Int) (a1 : Int) (a2 : Nat) (h0 : 0 ≤ a1 ∧ a1 ≤ 2388 ∧ a1 ≤ ((a2 : Nat) : Int)) (h1 : 0 ≤ a0 ∧ a0 < a1) (r0 : -2147483648 ≤ a0 ∧ a0 < 2147483648) (r1 : -2147483648 ≤ a1 ∧ a1 < 2147483648) : 0 ≤ a0 ∧ a0 < ((2400 : Nat) : Int) := by omega
theorem z_X11_goesBack_2 (a0 : Int) (a1 : Int) (a2 : Nat) (h0 : 0 ≤ a1 ∧ a1 ≤ 2388 ∧ a1 ≤ ((a2 : Nat) : Int)) (h1 : 0 ≤ a0 ∧ a0 < a1) (r0 : -2147483648 ≤ a0 ∧ a0 < 2147483648) (r1 : -2147483648 ≤ a1 ∧ a1 < 2147483648) : 0 ≤ a0 ∧ a0 < ((a2 : Nat) : Int) := by omega
theorem z_X11_goesBack_3 (a0 : Int) (a1 : Int) (a2 : Int) (h0 : a0 = a2) (h1 : 0 ≤ a0 ∧ a0 ≤ 11 ∧ 0 ≤ a1) (r0 : -2147483648 ≤ a0 ∧ a0 < 2147483648) : 0 ≤ a0 ∧ a0 ≤ 11 := by omega
theorem z_X11_goesBack_4 (a0 : Int) (a1 : Int) (a2 : Nat) (h0 : 0 ≤ a1 ∧ a1 ≤ 2388 ∧ a1 ≤ ((a2 : Nat) : Int)) (h1 : 0 ≤ a0 ∧ a0 < a1) (r0 : -2147483648 ≤ a0 ∧ a0 < 2147483648) (r1 : -2147483648 ≤ a1 ∧ a1 < 2147483648) : 0 ≤ a0 ∧ a0 < ((2400 : Nat) : Int) := by omega
theorem z_X11_goesBack_5 (a0 : Int) (a1 : Int) (a2 : Nat) (h0 : 0 ≤ a1 ∧ a1 ≤ 2388 ∧ a1 ≤ ((a2 : Nat) : Int)) (h1 : 0 ≤ a0 ∧ a0 < a1) (r0 : -2147483648 ≤ a0 ∧ a0 < 2147483648) (r1 : -2147483648 ≤ a1 ∧ a1 < 2147483648) : 0 ≤ a0 ∧ a0 < ((a2 : Nat) : Int) := by omega
theorem z_X11_goesBack_6 (a0 : Int) (a1 : Int) (a2 : Int) (a3 : Int) (h0 : a0 = a3) (h1 : 0 ≤ a0 ∧ a0 ≤ 11 ∧ 0 ≤ a1) (h2 : -1 ≤ a1 ∧ a1 ≤ 5) (h3 : -1 ≤ a2 ∧ a2 ≤ 2) (h4 : a1 = 1 ∨ a1 = 3 ∨ a1 = 4 → 0 ≤ a2) (r0 : -2147483648 ≤ a0 ∧ a0 < 2147483648) : 0 ≤ a0 ∧ a0 ≤ 11 := by first | (clear h4; omega) | omega
theorem z_X11_goesBack_7 (a0 : Int) (h0 : 0 ≤ a0 ∧ a0 ≤ 24) (r0 : -2147483648 ≤ a0 ∧ a0 < 2147483648) : 0 ≤ a0 ∧ a0 ≤ 24 := by omega
abbrev rm_X11_goesBack : Room := { frames := 3, cells := 0, slots := 0, locals := 65 }
set_option maxHeartbeats 4000000 in
set_option maxRecDepth 100000 in
theorem c_X11_goesBack (l : Launch) (E : XE) (K : Nat → Nat) (F : Nat → Nat → Nat) (tl z0 z1 z2 z3 z4 z5 z6 z7 z8 z9 z10 z11 z12 z13 z14 z15 z16 z17 z18 z19 z20 : Int32) (ar0 ar1 ar2 ar3 ar4 ar5 ar6 ar7 ar8 ar9 ar10 : Nat → Int32) (a : Nat) (ha : K a = 13) (hR : RV ar1) (e0 : 0 ≤ z4.toInt ∧ z4.toInt ≤ 2388 ∧ z4.toInt ≤ (((fV ar1 ar3 ar4) : Nat) : Int)) (e1 : 0 ≤ z15.toInt ∧ z15.toInt < z4.toInt) : Met l yX11_goesBack (xw yX11_goesBack cX11_goesBack 1 (some .int)) rm_X11_goesBack (va_Pc [.ref a] (XP E K F (tl, [z0, z1, z2, z3, z4, z5, z6, z7, z8, z9, z10, z11, z12, z13, z14, z15, z16, z17, z18, z19, z20], [ar0, ar1, ar2, ar3, ar4, ar5, ar6, ar7, ar8, ar9, ar10]))) (XQ E (fun v (u : Int32 × Int32 × Int32 × (Nat → Int32)) => ∃ r : Int32, v = .int r ∧ (0 ≤ u.2.2.1.toInt ∧ u.2.2.1.toInt ≤ 24)) (fun u H => TW E K F (tl, [z0, z1, z2, z3, z4, u.1, u.2.1, u.2.2.1, z8, z9, z10, z11, z12, z13, z14, z15, z16, z17, z18, z19, z20], [u.2.2.2, ar1, ar2, ar3, ar4, ar5, ar6, ar7, ar8, ar9, ar10]) [] H)) 0 0 (xA E) := by
  refine x_enter (by decide) (Nat.le_of_ble_eq_true rfl) ?_
  intro p e s m args below meth c Q S hr hlk hnm hQ hP ls hl
  obtain ⟨hz, hK, hT⟩ := hP
  obtain ⟨hx, hb, -, -, -⟩ := id S
  obtain ⟨H, hT, hS, hgo⟩ : ∃ H : Heap, TW E K F (tl, [z0, z1, z2, z3, z4, z5, z6, z7, z8, z9, z10, z11, z12, z13, z14, z15, z16, z17, z18, z19, z20], [ar0, ar1, ar2, ar3, ar4, ar5, ar6, ar7, ar8, ar9, ar10]) [] H ∧ va_S (xA E) s.heap H [] ∧ H = s.heap := ⟨_, hT, va_S.rf, rfl⟩
  rw [← hgo]
  have hl : lv_has ls 1 [(0, .ref a)] := hl
  refine lv_aload_n hx hb dX11_goesBack_0 rfl (lv_at hl 0 rfl) ?_
  refine gX11_4 S hK hT ha kf_X11_21 dX11_goesBack_1 (fun hk1 => ?_)
  refine lv_iconst (v := 0) hx hb dX11_goesBack_4 (by decide) ?_
  refine lv_aload_n hx hb dX11_goesBack_5 rfl (lv_at hl 0 rfl) ?_
  refine gX11_1 S hK hT ha kf_X11_9 dX11_goesBack_6 (fun hk2 => ?_)
  refine lv_iconst (v := 0) hx hb dX11_goesBack_9 (by decide) ?_
  refine x_cv0 (x_runS (As := [.ref (F a 4), .int 0, .ref (F a 1), .int 0]) (rest := []) S (c_X11_copy_r l E K F tl z0 z1 z2 z3 z4 z5 z6 z7 z8 z9 z10 z11 z12 z13 z14 z15 z16 z17 z18 z19 z20 ar0 ar1 ar2 ar3 ar4 ar5 ar6 ar7 ar8 ar9 ar10 (F a 4) 0 (F a 1) 0 (XO.b hk1 (by decide)) hk2 (by decide)) ms_X11_copy km_X11_309 rfl rfl ⟨Nat.le_of_ble_eq_true rfl, Nat.le_of_ble_eq_true rfl⟩ hK (fun _ => XP.blind) (fun U hU hW => XP.at hK hz hS hT hU hW) rfl hl.1 (Nat.le_of_ble_eq_true rfl) dX11_goesBack_10 ⟨Nat.le_of_ble_eq_true rfl, Nat.le_of_ble_eq_true rfl⟩) hS ?_
  rintro f3 H locs - hT hS
  have hT : TW E K F (tl, [z0, z1, z2, z3, z4, z5, z6, z7, z8, z9, z10, z11, z12, z13, z14, z15, z16, z17, z18, z19, z20], [f3, ar1, ar2, ar3, ar4, ar5, ar6, ar7, ar8, ar9, ar10]) [] H := hT
  refine lv_aload_n hx hb dX11_goesBack_13 rfl (lv_at hl 0 rfl) ?_
  refine lv_aload_n hx hb dX11_goesBack_14 rfl (lv_at hl 0 rfl) ?_
  refine gX11_17 S hK hT ha kf_X11_51 dX11_goesBack_15 (fun hk6 => ?_)
  refine lv_aload_n hx hb dX11_goesBack_18 rfl (lv_at hl 0 rfl) ?_
  refine gX11_46 S hK hT ha kf_X11_322 dX11_goesBack_19 (v := z15) rfl ?_
  refine tld_0 S hK hT hk6 (at_43 (f := ar3) rfl) (by decide) (z_X11_goesBack_1 z15.toInt z4.toInt (fV ar1 ar3 ar4) e0 e1 (xr z15) (xr z4)) dX11_goesBack_22 (fun x7 w8 o9 => ?_)
  have v11 : 0 ≤ x7.toInt ∧ x7.toInt ≤ 11 ∧ 0 ≤ (aI ar1 (10 * x7.toInt + (0 : Int))) := fV_rule (f4 := ar4) w8 (z_X11_goesBack_2 z15.toInt z4.toInt (fV ar1 ar3 ar4) e0 e1 (xr z15) (xr z4))
  have v12 : (-1 ≤ (aI ar1 (10 * x7.toInt + (0 : Int))) ∧ (aI ar1 (10 * x7.toInt + (0 : Int))) ≤ 5) ∧ (0 ≤ (aI ar1 (10 * x7.toInt + (1 : Int))) ∧ (aI ar1 (10 * x7.toInt + (1 : Int))) ≤ 2) ∧ (0 ≤ (aI ar1 (10 * x7.toInt + (2 : Int))) ∧ (aI ar1 (10 * x7.toInt + (2 : Int))) ≤ 2) ∧ (-1 ≤ (aI ar1 (10 * x7.toInt + (3 : Int))) ∧ (aI ar1 (10 * x7.toInt + (3 : Int))) ≤ 2) ∧ ((aI ar1 (10 * x7.toInt + (0 : Int))) = 1 ∨ (aI ar1 (10 * x7.toInt + (0 : Int))) = 3 ∨ (aI ar1 (10 * x7.toInt + (0 : Int))) = 4 → 0 ≤ (aI ar1 (10 * x7.toInt + (3 : Int)))) := RV.row hR (z_X11_goesBack_3 x7.toInt (aI ar1 (10 * x7.toInt + (0 : Int))) (aI ar3 z15.toInt) w8 v11 (xr x7))
  refine lv_aload_n hx hb dX11_goesBack_23 rfl (lv_at hl 0 rfl) ?_
  refine gX11_18 S hK hT ha kf_X11_54 dX11_goesBack_24 (fun hk13 => ?_)
  refine lv_aload_n hx hb dX11_goesBack_27 rfl (lv_at hl 0 rfl) ?_
  refine gX11_46 S hK hT ha kf_X11_322 dX11_goesBack_28 (v := z15) rfl ?_
  refine tld_0 S hK hT hk13 (at_44 (f := ar4) rfl) (by decide) (z_X11_goesBack_4 z15.toInt z4.toInt (fV ar1 ar3 ar4) e0 e1 (xr z15) (xr z4)) dX11_goesBack_31 (fun x14 w15 o16 => ?_)
  have v18 : -99 ≤ x14.toInt ∧ x14.toInt ≤ 99 ∧ (aF ar1 x7.toInt) ≤ x14.toInt ∧ x14.toInt ≤ (aL ar1 x7.toInt) := fV_sub w8 w15 (z_X11_goesBack_5 z15.toInt z4.toInt (fV ar1 ar3 ar4) e0 e1 (xr z15) (xr z4))
  refine x_cv0 (x_runV (b := a) (As := [.int x7, .int x14]) (rest := []) S (c_X11_failed l E K F tl z0 z1 z2 z3 z4 z5 z6 z7 z8 z9 z10 z11 z12 z13 z14 z15 z16 z17 z18 z19 z20 f3 ar1 ar2 ar3 ar4 ar5 ar6 ar7 ar8 ar9 ar10 a x7 x14 ha (z_X11_goesBack_6 x7.toInt (aI ar1 (10 * x7.toInt + (0 : Int))) (aI ar1 (10 * x7.toInt + (3 : Int))) (aI ar3 z15.toInt) w8 v11 (v12).1 (v12).2.2.2.1 (v12).2.2.2.2 (xr x7))) mv_X11_failed km_X11_299 rfl rfl ⟨Nat.le_of_ble_eq_true rfl, Nat.le_of_ble_eq_true rfl⟩ (rc_13 hK hT ha) hK (fun _ => XP.blind) (fun U hU hW => XP.at hK hz hS hT hU hW) rfl hl.1 (Nat.le_of_ble_eq_true rfl) dX11_goesBack_32 ⟨Nat.le_of_ble_eq_true rfl, Nat.le_of_ble_eq_true rfl⟩) hS ?_
  rintro ⟨u19, u20, u21⟩ H locs t22 hT hS
  have hT : TW E K F (tl, [z0, z1, z2, z3, z4, u19, u20, u21, z8, z9, z10, z11, z12, z13, z14, z15, z16, z17, z18, z19, z20], [f3, ar1, ar2, ar3, ar4, ar5, ar6, ar7, ar8, ar9, ar10]) [] H := hT
  have t22 : 0 ≤ u21.toInt ∧ u21.toInt ≤ 24 := t22
  refine lv_aload_n hx hb dX11_goesBack_35 rfl (lv_at hl 0 rfl) ?_
  refine lv_bipush (v := (-5)) hx hb dX11_goesBack_36 (by decide) ?_
  refine x_cl0 (x_runV (b := a) (As := [.int (-5)]) (rest := []) S (c_X11_refuses l E K F tl z0 z1 z2 z3 z4 u19 u20 u21 z8 z9 z10 z11 z12 z13 z14 z15 z16 z17 z18 z19 z20 f3 ar1 ar2 ar3 ar4 ar5 ar6 ar7 ar8 ar9 ar10 a (-5) ha) mv_X11_refuses km_X11_325 rfl rfl ⟨Nat.le_of_ble_eq_true rfl, Nat.le_of_ble_eq_true rfl⟩ (rc_13 hK hT ha) hK (fun _ => XP.blind) (fun U hU hW => XP.at hK hz hS hT hU hW) rfl hl.1 (Nat.le_of_ble_eq_true rfl) dX11_goesBack_38 ⟨Nat.le_of_ble_eq_true rfl, Nat.le_of_ble_eq_true rfl⟩) hS ?_
  rintro _ _ H locs ⟨x25, rfl⟩ hT hS
  exact x_ri hx hb hr hlk hQ (Nat.le_of_ble_eq_true rfl) (Nat.le_of_ble_eq_true rfl) hS dX11_goesBack_41 (u19, u20, u21, f3) ⟨_, rfl, (z_X11_goesBack_7 u21.toInt t22 (xr u21))⟩ hT.nil
