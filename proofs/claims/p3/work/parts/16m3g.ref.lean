theorem z_X11_back_1 (a0 : Int) (h0 : (0 : Int) ≤ a0) (r0 : -2147483648 ≤ a0 ∧ a0 < 2147483648) : ¬ (2147483648 - a0 < ((0 : Nat) : Int)) := by omega
theorem z_X11_back_2 (a0 : Int) (a1 : Int) (a2 : Int) (a3 : Int) (h0 : 0 ≤ a3 ∧ a3 ≤ 8) (h1 : a2 = 0 ∨ (a2 = 1 ∧ 0 ≤ a0 ∧ a0 < a3)) (h2 : a2 = 0 ∨ a2 = 1) (h3 : a2 ≠ 0) (h4 : a1 = (360 : Int) * a0 ∨ (360 : Int) * a0 < -2147483648 ∨ 2147483648 ≤ (360 : Int) * a0) (r0 : -2147483648 ≤ a0 ∧ a0 < 2147483648) (r1 : -2147483648 ≤ a1 ∧ a1 < 2147483648) (r2 : -2147483648 ≤ a2 ∧ a2 < 2147483648) (r3 : -2147483648 ≤ a3 ∧ a3 < 2147483648) : 0 ≤ a1 ∧ a1 ≤ 2520 := by first | (clear h1 h2 h3; omega) | (clear h2 h3; omega) | omega
theorem z_X11_back_3 (a0 : Int) (a1 : Int) (a2 : Int) (a3 : Int) (a4 : Int) (a5 : Int) (h0 : 0 ≤ a5 ∧ a5 ≤ 8) (h1 : a1 = 0) (h2 : a4 = 0 ∨ (a4 = 1 ∧ 0 ≤ a0 ∧ a0 < a5)) (h3 : a4 = 0 ∨ a4 = 1) (h4 : a4 ≠ 0) (h5 : a2 = (360 : Int) * a0 ∨ (360 : Int) * a0 < -2147483648 ∨ 2147483648 ≤ (360 : Int) * a0) (h6 : a3 = a0 + (1 : Int) ∨ a0 + (1 : Int) < -2147483648 ∨ 2147483648 ≤ a0 + (1 : Int)) (r0 : -2147483648 ≤ a0 ∧ a0 < 2147483648) (r1 : -2147483648 ≤ a1 ∧ a1 < 2147483648) (r2 : -2147483648 ≤ a2 ∧ a2 < 2147483648) (r3 : -2147483648 ≤ a3 ∧ a3 < 2147483648) (r4 : -2147483648 ≤ a4 ∧ a4 < 2147483648) (r5 : -2147483648 ≤ a5 ∧ a5 < 2147483648) : 0 ≤ a1 ∧ a1 ≤ 24 ∧ 0 ≤ a3 ∧ a3 ≤ 8 := by first | (clear h2 h3 h4 h5; omega) | (clear h3 h4; omega) | omega
theorem z_X11_back_4 (a0 : Int) (a1 : Int) (a2 : Nat) (a3 : Nat) (h0 : 0 ≤ a0 ∧ a0 ≤ 12 ∧ a0 ≤ ((a3 : Nat) : Int)) (h1 : (0 : Int) ≤ a1) (h2 : 2147483648 - a1 < ((a2 + 1 : Nat) : Int)) (h3 : ¬ (a0 ≤ a1)) (r0 : -2147483648 ≤ a0 ∧ a0 < 2147483648) (r1 : -2147483648 ≤ a1 ∧ a1 < 2147483648) : 0 ≤ a1 ∧ a1 < ((12 : Nat) : Int) := by omega
theorem z_X11_back_5 (a0 : Int) (a1 : Int) (a2 : Nat) (a3 : Nat) (h0 : 0 ≤ a0 ∧ a0 ≤ 12 ∧ a0 ≤ ((a3 : Nat) : Int)) (h1 : (0 : Int) ≤ a1) (h2 : 2147483648 - a1 < ((a2 + 1 : Nat) : Int)) (h3 : ¬ (a0 ≤ a1)) (r0 : -2147483648 ≤ a0 ∧ a0 < 2147483648) (r1 : -2147483648 ≤ a1 ∧ a1 < 2147483648) : 0 ≤ a1 ∧ a1 < ((a3 : Nat) : Int) := by omega
theorem z_X11_back_6 (a0 : Int) (a1 : Int) (a2 : Int) (h0 : a0 = a2) (h1 : 0 ≤ a0 ∧ a0 ≤ 11 ∧ 0 ≤ a1) (r0 : -2147483648 ≤ a0 ∧ a0 < 2147483648) : 0 ≤ a0 ∧ a0 ≤ 11 := by omega
theorem z_X11_back_7 (a0 : Int) (a1 : Int) (a2 : Int) (a3 : Int) (h0 : a0 = a3) (h1 : 0 ≤ a0 ∧ a0 ≤ 11 ∧ 0 ≤ a1) (h2 : -1 ≤ a1 ∧ a1 ≤ 5) (h3 : -1 ≤ a2 ∧ a2 ≤ 2) (h4 : a1 = 1 ∨ a1 = 3 ∨ a1 = 4 → 0 ≤ a2) (r0 : -2147483648 ≤ a0 ∧ a0 < 2147483648) : 0 ≤ a0 ∧ a0 ≤ 11 := by first | (clear h4; omega) | omega
theorem z_X11_back_8 (a0 : Int) (a1 : Int) (a2 : Int) (a3 : Int) (h0 : a2 ≤ a1 ∧ a1 ≤ a3 + 1) (h1 : a0 = a2 ∧ -99 ≤ a2 ∧ a2 ≤ 0 ∧ 29 ≤ a3 ∧ a3 ≤ 99 ∧ a3 - a2 ≤ 198) (r0 : -2147483648 ≤ a0 ∧ a0 < 2147483648) (r1 : -2147483648 ≤ a1 ∧ a1 < 2147483648) : ¬ (2147483648 - a1 < ((0 : Nat) : Int)) := by omega
theorem z_X11_back_9 (a0 : Int) (a1 : Int) (a2 : Int) (a3 : Int) (h0 : a0 = a3) (h1 : 0 ≤ a0 ∧ a0 ≤ 11 ∧ 0 ≤ a1) (h2 : -1 ≤ a1 ∧ a1 ≤ 5) (h3 : -1 ≤ a2 ∧ a2 ≤ 2) (h4 : a1 = 1 ∨ a1 = 3 ∨ a1 = 4 → 0 ≤ a2) (r0 : -2147483648 ≤ a0 ∧ a0 < 2147483648) : 0 ≤ a0 ∧ a0 ≤ 11 := by first | (clear h4; omega) | omega
theorem z_X11_back_10 (a0 : Int) (a1 : Int) (a2 : Int) (a3 : Nat) (a4 : Nat) (h0 : 0 ≤ a0 ∧ a0 ≤ 12 ∧ a0 ≤ ((a4 : Nat) : Int)) (h1 : (0 : Int) ≤ a1) (h2 : 2147483648 - a1 < ((a3 + 1 : Nat) : Int)) (h3 : ¬ (a0 ≤ a1)) (h4 : a2 = a1 + 1 ∨ a1 + 1 < -2147483648 ∨ 2147483648 ≤ a1 + 1) (r0 : -2147483648 ≤ a0 ∧ a0 < 2147483648) (r1 : -2147483648 ≤ a1 ∧ a1 < 2147483648) (r2 : -2147483648 ≤ a2 ∧ a2 < 2147483648) : (0 : Int) ≤ a2 := by omega
theorem z_X11_back_11 (a0 : Int) (a1 : Int) (a2 : Int) (a3 : Nat) (a4 : Nat) (h0 : 0 ≤ a0 ∧ a0 ≤ 12 ∧ a0 ≤ ((a4 : Nat) : Int)) (h1 : (0 : Int) ≤ a1) (h2 : 2147483648 - a1 < ((a3 + 1 : Nat) : Int)) (h3 : ¬ (a0 ≤ a1)) (h4 : a2 = a1 + 1 ∨ a1 + 1 < -2147483648 ∨ 2147483648 ≤ a1 + 1) (r0 : -2147483648 ≤ a0 ∧ a0 < 2147483648) (r1 : -2147483648 ≤ a1 ∧ a1 < 2147483648) (r2 : -2147483648 ≤ a2 ∧ a2 < 2147483648) : 2147483648 - a2 < ((a3 : Nat) : Int) := by omega
theorem z_X11_back_12 (a0 : Int) (a1 : Int) (a2 : Int) (a3 : Int) (h0 : a0 = a3) (h1 : 0 ≤ a0 ∧ a0 ≤ 11 ∧ 0 ≤ a1) (h2 : -1 ≤ a1 ∧ a1 ≤ 5) (h3 : -1 ≤ a2 ∧ a2 ≤ 2) (h4 : a1 = 1 ∨ a1 = 3 ∨ a1 = 4 → 0 ≤ a2) (r0 : -2147483648 ≤ a0 ∧ a0 < 2147483648) : 0 ≤ a0 ∧ a0 ≤ 11 := by first | (clear h4; omega) | omega
theorem z_X11_back_13 (a0 : Int) (a1 : Int) (a2 : Int) (a3 : Int) (h0 : 0 ≤ a3 ∧ a3 ≤ 8) (h1 : a2 = 0 ∨ (a2 = 1 ∧ 0 ≤ a0 ∧ a0 < a3)) (h2 : a2 = 0 ∨ a2 = 1) (h3 : a2 ≠ 0) (h4 : a1 = (360 : Int) * a0 ∨ (360 : Int) * a0 < -2147483648 ∨ 2147483648 ≤ (360 : Int) * a0) (r0 : -2147483648 ≤ a0 ∧ a0 < 2147483648) (r1 : -2147483648 ≤ a1 ∧ a1 < 2147483648) (r2 : -2147483648 ≤ a2 ∧ a2 < 2147483648) (r3 : -2147483648 ≤ a3 ∧ a3 < 2147483648) : 0 ≤ a1 ∧ a1 ≤ 2520 := by first | (clear h1 h2 h3; omega) | (clear h2 h3; omega) | omega
theorem z_X11_back_14 (a0 : Int) (a1 : Int) (a2 : Int) (a3 : Int) (h0 : a0 = a3) (h1 : 0 ≤ a0 ∧ a0 ≤ 11 ∧ 0 ≤ a1) (h2 : -1 ≤ a1 ∧ a1 ≤ 5) (h3 : -1 ≤ a2 ∧ a2 ≤ 2) (h4 : a1 = 1 ∨ a1 = 3 ∨ a1 = 4 → 0 ≤ a2) (r0 : -2147483648 ≤ a0 ∧ a0 < 2147483648) : 0 ≤ a0 ∧ a0 ≤ 11 := by first | (clear h4; omega) | omega
theorem z_X11_back_15 (a0 : Int) (a1 : Int) (a2 : Int) (a3 : Int) (h0 : a0 = a3) (h1 : 0 ≤ a0 ∧ a0 ≤ 11 ∧ 0 ≤ a1) (h2 : -1 ≤ a1 ∧ a1 ≤ 5) (h3 : -1 ≤ a2 ∧ a2 ≤ 2) (h4 : a1 = 1 ∨ a1 = 3 ∨ a1 = 4 → 0 ≤ a2) (r0 : -2147483648 ≤ a0 ∧ a0 < 2147483648) : 0 ≤ a1 := by omega
theorem z_X11_back_16 (a0 : Int) (a1 : Int) (a2 : Int) (a3 : Nat) (a4 : Int) (a5 : Int) (h0 : a0 = a4 ∧ -99 ≤ a4 ∧ a4 ≤ 0 ∧ 29 ≤ a5 ∧ a5 ≤ 99 ∧ a5 - a4 ≤ 198) (h1 : a4 ≤ a1 ∧ a1 ≤ a5 + 1) (h2 : 2147483648 - a1 < ((a3 + 1 : Nat) : Int)) (h3 : a2 = a5 ∧ -99 ≤ a4 ∧ a4 ≤ 0 ∧ 29 ≤ a5 ∧ a5 ≤ 99 ∧ a5 - a4 ≤ 198) (h4 : ¬ (a2 < a1)) (r0 : -2147483648 ≤ a0 ∧ a0 < 2147483648) (r1 : -2147483648 ≤ a1 ∧ a1 < 2147483648) (r2 : -2147483648 ≤ a2 ∧ a2 < 2147483648) : a4 ≤ a1 ∧ a1 ≤ a5 := by omega
theorem z_X11_back_17 (a0 : Int) (a1 : Int) (a2 : Int) (a3 : Int) (a4 : Nat) (a5 : Int) (a6 : Int) (h0 : a0 = a5 ∧ -99 ≤ a5 ∧ a5 ≤ 0 ∧ 29 ≤ a6 ∧ a6 ≤ 99 ∧ a6 - a5 ≤ 198) (h1 : a5 ≤ a1 ∧ a1 ≤ a6 + 1) (h2 : 2147483648 - a1 < ((a4 + 1 : Nat) : Int)) (h3 : a2 = a6 ∧ -99 ≤ a5 ∧ a5 ≤ 0 ∧ 29 ≤ a6 ∧ a6 ≤ 99 ∧ a6 - a5 ≤ 198) (h4 : ¬ (a2 < a1)) (h5 : a3 = a1 + 1 ∨ a1 + 1 < -2147483648 ∨ 2147483648 ≤ a1 + 1) (r0 : -2147483648 ≤ a0 ∧ a0 < 2147483648) (r1 : -2147483648 ≤ a1 ∧ a1 < 2147483648) (r2 : -2147483648 ≤ a2 ∧ a2 < 2147483648) (r3 : -2147483648 ≤ a3 ∧ a3 < 2147483648) : a5 ≤ a3 ∧ a3 ≤ a6 + 1 := by omega
theorem z_X11_back_18 (a0 : Int) (a1 : Int) (a2 : Int) (a3 : Int) (a4 : Nat) (a5 : Int) (a6 : Int) (h0 : a0 = a5 ∧ -99 ≤ a5 ∧ a5 ≤ 0 ∧ 29 ≤ a6 ∧ a6 ≤ 99 ∧ a6 - a5 ≤ 198) (h1 : a5 ≤ a1 ∧ a1 ≤ a6 + 1) (h2 : 2147483648 - a1 < ((a4 + 1 : Nat) : Int)) (h3 : a2 = a6 ∧ -99 ≤ a5 ∧ a5 ≤ 0 ∧ 29 ≤ a6 ∧ a6 ≤ 99 ∧ a6 - a5 ≤ 198) (h4 : ¬ (a2 < a1)) (h5 : a3 = a1 + 1 ∨ a1 + 1 < -2147483648 ∨ 2147483648 ≤ a1 + 1) (r0 : -2147483648 ≤ a0 ∧ a0 < 2147483648) (r1 : -2147483648 ≤ a1 ∧ a1 < 2147483648) (r2 : -2147483648 ≤ a2 ∧ a2 < 2147483648) (r3 : -2147483648 ≤ a3 ∧ a3 < 2147483648) : 2147483648 - a3 < ((a4 : Nat) : Int) := by omega
theorem z_X11_back_19 (a0 : Int) (a1 : Int) (a2 : Int) (a3 : Int) (h0 : a0 = a3) (h1 : 0 ≤ a0 ∧ a0 ≤ 11 ∧ 0 ≤ a1) (h2 : -1 ≤ a1 ∧ a1 ≤ 5) (h3 : -1 ≤ a2 ∧ a2 ≤ 2) (h4 : a1 = 1 ∨ a1 = 3 ∨ a1 = 4 → 0 ≤ a2) (r0 : -2147483648 ≤ a0 ∧ a0 < 2147483648) : 0 ≤ a0 ∧ a0 ≤ 11 := by first | (clear h4; omega) | omega
theorem z_X11_back_20 (a0 : Int) (a1 : Int) (a2 : Int) (a3 : Int) (a4 : Int) (h0 : 0 ≤ a4 ∧ a4 ≤ 8) (h1 : a3 = 0 ∨ (a3 = 1 ∧ 0 ≤ a0 ∧ a0 < a4)) (h2 : a3 = 0 ∨ a3 = 1) (h3 : a3 ≠ 0) (h4 : a2 = (360 : Int) * a0 ∨ (360 : Int) * a0 < -2147483648 ∨ 2147483648 ≤ (360 : Int) * a0) (h5 : 0 ≤ a1 ∧ a1 ≤ 24) (r0 : -2147483648 ≤ a0 ∧ a0 < 2147483648) (r1 : -2147483648 ≤ a1 ∧ a1 < 2147483648) (r2 : -2147483648 ≤ a2 ∧ a2 < 2147483648) (r3 : -2147483648 ≤ a3 ∧ a3 < 2147483648) (r4 : -2147483648 ≤ a4 ∧ a4 < 2147483648) : 0 ≤ a1 ∧ a1 ≤ 24 ∧ 0 ≤ a4 ∧ a4 ≤ 8 := by first | (clear h2 h3 h4; omega) | omega
theorem z_X11_back_21 (a0 : Int) (a1 : Int) (a2 : Int) (h0 : a0 = a1 ∧ -99 ≤ a1 ∧ a1 ≤ 0 ∧ 29 ≤ a2 ∧ a2 ≤ 99 ∧ a2 - a1 ≤ 198) (r0 : -2147483648 ≤ a0 ∧ a0 < 2147483648) : a1 ≤ a0 ∧ a0 ≤ a2 + 1 := by omega
theorem z_X11_back_22 (a0 : Int) (a1 : Int) (a2 : Int) (h0 : a0 = a1 ∧ -99 ≤ a1 ∧ a1 ≤ 0 ∧ 29 ≤ a2 ∧ a2 ≤ 99 ∧ a2 - a1 ≤ 198) (r0 : -2147483648 ≤ a0 ∧ a0 < 2147483648) : 2147483648 - a0 < ((4294967297 : Nat) : Int) := by omega
theorem z_X11_back_23 (a0 : Int) (a1 : Int) (a2 : Int) (a3 : Int) (h0 : 0 ≤ a3 ∧ a3 ≤ 8) (h1 : a1 = 0) (h2 : a2 = 0 ∨ (a2 = 1 ∧ 0 ≤ a0 ∧ a0 < a3)) (h3 : a2 = 0 ∨ a2 = 1) (h4 : ¬ (a2 ≠ 0)) (r0 : -2147483648 ≤ a0 ∧ a0 < 2147483648) (r1 : -2147483648 ≤ a1 ∧ a1 < 2147483648) (r2 : -2147483648 ≤ a2 ∧ a2 < 2147483648) (r3 : -2147483648 ≤ a3 ∧ a3 < 2147483648) : 0 ≤ a1 ∧ a1 ≤ 24 ∧ 0 ≤ a3 ∧ a3 ≤ 8 := by first | (clear h3 h4; omega) | omega
theorem z_X11_back_24 (a0 : Int) (a1 : Int) (h0 : 0 ≤ a1 ∧ a1 ≤ 8) (h1 : a0 = 0) (r0 : -2147483648 ≤ a0 ∧ a0 < 2147483648) (r1 : -2147483648 ≤ a1 ∧ a1 < 2147483648) : 0 ≤ a0 ∧ a0 ≤ 24 ∧ 0 ≤ a1 ∧ a1 ≤ 8 := by omega
abbrev rm_X11_back : Room := { frames := 6, cells := 0, slots := 0, locals := 142 }
set_option maxHeartbeats 4000000 in
set_option maxRecDepth 100000 in
theorem c_X11_back (l : Launch) (E : XE) (K : Nat → Nat) (F : Nat → Nat → Nat) (tl z0 z1 z2 z3 z4 z5 z6 z7 z8 z9 z10 z11 z12 z13 z14 z15 z16 z17 z18 z19 z20 : Int32) (ar0 ar1 ar2 ar3 ar4 ar5 ar6 ar7 ar8 ar9 ar10 : Nat → Int32) (a : Nat) (p0 : Int32) (ha : K a = 13) (hR : RV ar1) (e0 : 0 ≤ z2.toInt ∧ z2.toInt ≤ 8) (e1 : 0 ≤ z7.toInt ∧ z7.toInt ≤ 24) : Met l yX11_back (xw yX11_back cX11_back 5 (some .int)) rm_X11_back (va_Pc [.ref a, .int p0] (XP E K F (tl, [z0, z1, z2, z3, z4, z5, z6, z7, z8, z9, z10, z11, z12, z13, z14, z15, z16, z17, z18, z19, z20], [ar0, ar1, ar2, ar3, ar4, ar5, ar6, ar7, ar8, ar9, ar10]))) (XQ E (fun v (u : Int32 × Int32 × Int32 × Int32 × Int32 × Int32 × Int32 × (Nat → Int32) × (Nat → Int32) × (Nat → Int32) × (Nat → Int32)) => ∃ r : Int32, v = .int r ∧ (0 ≤ u.2.2.2.2.2.2.1.toInt ∧ u.2.2.2.2.2.2.1.toInt ≤ 24 ∧ 0 ≤ u.2.1.toInt ∧ u.2.1.toInt ≤ 8)) (fun u H => TW E K F (tl, [u.1, z1, u.2.1, u.2.2.1, u.2.2.2.1, u.2.2.2.2.1, u.2.2.2.2.2.1, u.2.2.2.2.2.2.1, z8, z9, z10, z11, z12, z13, z14, z15, z16, z17, z18, z19, z20], [u.2.2.2.2.2.2.2.1, ar1, u.2.2.2.2.2.2.2.2.1, u.2.2.2.2.2.2.2.2.2.1, u.2.2.2.2.2.2.2.2.2.2, ar5, ar6, ar7, ar8, ar9, ar10]) [] H)) 0 0 (xA E) := by
  refine x_enter (by decide) (Nat.le_of_ble_eq_true rfl) ?_
  intro p e s m args below meth c Q S hr hlk hnm hQ hP ls hl
  obtain ⟨hz, hK, hT⟩ := hP
  obtain ⟨hx, hb, -, -, -⟩ := id S
  obtain ⟨H, hT, hS, hgo⟩ : ∃ H : Heap, TW E K F (tl, [z0, z1, z2, z3, z4, z5, z6, z7, z8, z9, z10, z11, z12, z13, z14, z15, z16, z17, z18, z19, z20], [ar0, ar1, ar2, ar3, ar4, ar5, ar6, ar7, ar8, ar9, ar10]) [] H ∧ va_S (xA E) s.heap H [] ∧ H = s.heap := ⟨_, hT, va_S.rf, rfl⟩
  rw [← hgo]
  have hl : lv_has ls 5 [(0, .ref a), (1, .int p0)] := hl
  refine lv_aload_n hx hb dX11_back_0 rfl (lv_at hl 0 rfl) ?_
  refine lv_iconst (v := 0) hx hb dX11_back_1 (by decide) ?_
  refine pX11_0 (kq := []) (v := 0) S hK hT hS ha kf_X11_134 (Nat.le_of_ble_eq_true rfl) dX11_back_2 (fun _ h => by cases h) (fun H locs hT hS => ?_)
  have hT : TW E K F (tl, [0, z1, z2, z3, z4, z5, z6, z7, z8, z9, z10, z11, z12, z13, z14, z15, z16, z17, z18, z19, z20], [ar0, ar1, ar2, ar3, ar4, ar5, ar6, ar7, ar8, ar9, ar10]) [] H := hT
  refine lv_aload_n hx hb dX11_back_5 rfl (lv_at hl 0 rfl) ?_
  refine x_cv0 (x_runV (b := a) (As := []) (rest := []) S (c_X11_nothing l E K F tl 0 z1 z2 z3 z4 z5 z6 z7 z8 z9 z10 z11 z12 z13 z14 z15 z16 z17 z18 z19 z20 ar0 ar1 ar2 ar3 ar4 ar5 ar6 ar7 ar8 ar9 ar10 a ha) mv_X11_nothing km_X11_231 rfl rfl ⟨Nat.le_of_ble_eq_true rfl, Nat.le_of_ble_eq_true rfl⟩ (rc_13 hK hT ha) hK (fun _ => XP.blind) (fun U hU hW => XP.at hK hz hS hT hU hW) rfl hl.1 (Nat.le_of_ble_eq_true rfl) dX11_back_6 ⟨Nat.le_of_ble_eq_true rfl, Nat.le_of_ble_eq_true rfl⟩) hS ?_
  rintro ⟨u1, u2, u3⟩ H locs t4 hT hS
  have hT : TW E K F (tl, [0, z1, z2, z3, z4, u1, u2, u3, z8, z9, z10, z11, z12, z13, z14, z15, z16, z17, z18, z19, z20], [ar0, ar1, ar2, ar3, ar4, ar5, ar6, ar7, ar8, ar9, ar10]) [] H := hT
  have t4 : u3.toInt = 0 := t4
  refine lv_aload_n hx hb dX11_back_9 rfl (lv_at hl 0 rfl) ?_
  refine gX11_6 S hK hT ha kf_X11_206 dX11_back_10 (v := z1) rfl ?_
  refine xi_zne (tgt := 19) hx hb (rfl : Int32.toInt z1 = z1.toInt) dX11_back_13 (by decide) (fun c7 => ?_) (fun c7 => ?_)
  · refine lv_aload_n hx hb dX11_back_19 rfl (lv_at hl 0 rfl) ?_
    refine lv_iload_n hx hb dX11_back_20 rfl (lv_at hl 1 rfl) ?_
    refine x_clp (x_runV (b := a) (As := [.int p0]) (rest := []) S (c_X11_isMark l E K F tl 0 z1 z2 z3 z4 u1 u2 u3 z8 z9 z10 z11 z12 z13 z14 z15 z16 z17 z18 z19 z20 ar0 ar1 ar2 ar3 ar4 ar5 ar6 ar7 ar8 ar9 ar10 H a p0 ha) mv_X11_isMark km_X11_382 rfl rfl ⟨Nat.le_of_ble_eq_true rfl, Nat.le_of_ble_eq_true rfl⟩ (rc_13 hK hT ha) hK (fun _ => XPh.blind) (fun U hU hW => XPh.at hK hz hS hT hU hW) rfl hl.1 (Nat.le_of_ble_eq_true rfl) dX11_back_21 ⟨Nat.le_of_ble_eq_true rfl, Nat.le_of_ble_eq_true rfl⟩) hS ?_
    rintro _ _ locs ⟨x9, rfl, b10, t8⟩ hS
    have t8 : x9.toInt = 0 ∨ (x9.toInt = 1 ∧ 0 ≤ p0.toInt ∧ p0.toInt < z2.toInt) := t8
    refine xi_zne (tgt := 30) hx hb (rfl : Int32.toInt x9 = x9.toInt) dX11_back_24 (by decide) (fun c11 => ?_) (fun c11 => ?_)
    · refine lv_aload_n hx hb dX11_back_30 rfl (lv_at hl 0 rfl) ?_
      refine x_cv0 (x_runV (b := a) (As := []) (rest := []) S (c_X11_layOrder l E K F tl 0 z1 z2 z3 z4 u1 u2 u3 z8 z9 z10 z11 z12 z13 z14 z15 z16 z17 z18 z19 z20 ar0 ar1 ar2 ar3 ar4 ar5 ar6 ar7 ar8 ar9 ar10 a ha hR) mv_X11_layOrder km_X11_200 rfl rfl ⟨Nat.le_of_ble_eq_true rfl, Nat.le_of_ble_eq_true rfl⟩ (rc_13 hK hT ha) hK (fun _ => XP.blind) (fun U hU hW => XP.at hK hz hS hT hU hW) rfl hl.1 (Nat.le_of_ble_eq_true rfl) dX11_back_31 ⟨Nat.le_of_ble_eq_true rfl, Nat.le_of_ble_eq_true rfl⟩) hS ?_
      rintro ⟨u12, f13⟩ H locs t14 hT hS
      have hT : TW E K F (tl, [0, z1, z2, u12, z4, u1, u2, u3, z8, z9, z10, z11, z12, z13, z14, z15, z16, z17, z18, z19, z20], [ar0, ar1, f13, ar3, ar4, ar5, ar6, ar7, ar8, ar9, ar10]) [] H := hT
      have t14 : 0 ≤ u12.toInt ∧ u12.toInt ≤ 12 ∧ u12.toInt ≤ (((oV ar1 f13) : Nat) : Int) := t14
      refine lv_iconst (v := 0) hx hb dX11_back_34 (by decide) ?_
      refine lv_istore_n (lv' := [(2, .int 0), (0, .ref a), (1, .int p0)]) hx hb dX11_back_35 rfl hl (by decide) rfl (fun ls hl => ?_)
      have L36 : ∀ (N18 : Nat) (x17 : Int32) (H : Heap) (locs : List Loc) (ls : Array Slot), (0 : Int) ≤ x17.toInt → 2147483648 - x17.toInt < ((N18 : Nat) : Int) → TW E K F (tl, [0, z1, z2, u12, z4, u1, u2, u3, z8, z9, z10, z11, z12, z13, z14, z15, z16, z17, z18, z19, z20], [ar0, ar1, f13, ar3, ar4, ar5, ar6, ar7, ar8, ar9, ar10]) [] H → va_S (xA E) s.heap H locs → lv_has ls 5 [(0, .ref a), (1, .int p0), (2, .int x17)] → W p l e rm_X11_back s m args below meth c H locs 0 0 Q (F0 m 36 ls []) := by
        intro N18
        induction N18 with
        | zero =>
          intro x17 H locs ls hf19 hm20
          exact absurd hm20 (z_X11_back_1 x17.toInt hf19 (xr x17))
        | succ N18 ih21 =>
          intro x17 H locs ls hf19 hm20 hT hS hl
          refine lv_iload_n hx hb dX11_back_36 rfl (lv_at hl 2 rfl) ?_
          refine lv_aload_n hx hb dX11_back_37 rfl (lv_at hl 0 rfl) ?_
          refine gX11_16 S hK hT ha kf_X11_197 dX11_back_38 (v := u12) rfl ?_
          refine xi_cge (tgt := 119) hx hb (rfl : Int32.toInt x17 = x17.toInt) (rfl : Int32.toInt u12 = u12.toInt) dX11_back_41 (by decide) (fun c22 => ?_) (fun c22 => ?_)
          · refine lv_aload_n hx hb dX11_back_119 rfl (lv_at hl 0 rfl) ?_
            refine lv_aload_n hx hb dX11_back_120 rfl (lv_at hl 0 rfl) ?_
            refine gX11_12 S hK hT ha kf_X11_39 dX11_back_121 (fun hk23 => ?_)
            refine lv_aload_n hx hb dX11_back_124 rfl (lv_at hl 0 rfl) ?_
            refine gX11_1 S hK hT ha kf_X11_9 dX11_back_125 (fun hk24 => ?_)
            refine lv_iconst (v := 0) hx hb dX11_back_128 (by decide) ?_
            refine x_cv0 (x_runV (b := a) (As := [.ref (F a 12), .ref (F a 1), .int 0]) (rest := []) S (c_X11_layStates l E K F tl 0 z1 z2 u12 z4 u1 u2 u3 z8 z9 z10 z11 z12 z13 z14 z15 z16 z17 z18 z19 z20 ar0 ar1 f13 ar3 ar4 ar5 ar6 ar7 ar8 ar9 ar10 a (F a 12) (F a 1) 0 ha hk23 (XO.a hk24 (by decide)) hR) mv_X11_layStates km_X11_210 rfl rfl ⟨Nat.le_of_ble_eq_true rfl, Nat.le_of_ble_eq_true rfl⟩ (rc_13 hK hT ha) hK (fun _ => XP.blind) (fun U hU hW => XP.at hK hz hS hT hU hW) rfl hl.1 (Nat.le_of_ble_eq_true rfl) dX11_back_129 ⟨Nat.le_of_ble_eq_true rfl, Nat.le_of_ble_eq_true rfl⟩) hS ?_
            rintro _ H locs - hT hS
            refine lv_aload_n hx hb dX11_back_132 rfl (lv_at hl 0 rfl) ?_
            refine gX11_3 S hK hT ha kf_X11_18 dX11_back_133 (fun hk27 => ?_)
            refine lv_sipush (v := 360) hx hb dX11_back_136 (by decide) ?_
            refine lv_iload_n hx hb dX11_back_139 rfl (lv_at hl 1 rfl) ?_
            refine xi_imul hx hb ((by decide) : Int32.toInt 360 = (360 : Int)) (rfl : Int32.toInt p0 = p0.toInt) dX11_back_140 (fun x28 t29 => ?_)
            refine lv_aload_n hx hb dX11_back_141 rfl (lv_at hl 0 rfl) ?_
            refine gX11_1 S hK hT ha kf_X11_9 dX11_back_142 (fun hk30 => ?_)
            refine lv_iconst (v := 0) hx hb dX11_back_145 (by decide) ?_
            refine x_cv0 (x_runS (As := [.ref (F a 3), .int x28, .ref (F a 1), .int 0]) (rest := []) S (c_X11_copy_r l E K F tl 0 z1 z2 u12 z4 u1 u2 u3 z8 z9 z10 z11 z12 z13 z14 z15 z16 z17 z18 z19 z20 ar0 ar1 f13 ar3 ar4 ar5 ar6 ar7 ar8 ar9 ar10 (F a 3) x28 (F a 1) 0 (XO.c hk27 (z_X11_back_2 p0.toInt x28.toInt x9.toInt z2.toInt e0 t8 (xbz b10) c11 t29 (xr p0) (xr x28) (xr x9) (xr z2))) hk30 (by decide)) ms_X11_copy km_X11_309 rfl rfl ⟨Nat.le_of_ble_eq_true rfl, Nat.le_of_ble_eq_true rfl⟩ hK (fun _ => XP.blind) (fun U hU hW => XP.at hK hz hS hT hU hW) rfl hl.1 (Nat.le_of_ble_eq_true rfl) dX11_back_146 ⟨Nat.le_of_ble_eq_true rfl, Nat.le_of_ble_eq_true rfl⟩) hS ?_
            rintro f31 H locs - hT hS
            have hT : TW E K F (tl, [0, z1, z2, u12, z4, u1, u2, u3, z8, z9, z10, z11, z12, z13, z14, z15, z16, z17, z18, z19, z20], [f31, ar1, f13, ar3, ar4, ar5, ar6, ar7, ar8, ar9, ar10]) [] H := hT
            refine lv_aload_n hx hb dX11_back_149 rfl (lv_at hl 0 rfl) ?_
            refine lv_aload_n hx hb dX11_back_150 rfl (lv_at hl 0 rfl) ?_
            refine gX11_11 S hK hT ha kf_X11_36 dX11_back_151 (fun hk34 => ?_)
            refine lv_aload_n hx hb dX11_back_154 rfl (lv_at hl 0 rfl) ?_
            refine gX11_1 S hK hT ha kf_X11_9 dX11_back_155 (fun hk35 => ?_)
            refine lv_iconst (v := 0) hx hb dX11_back_158 (by decide) ?_
            refine x_cv0 (x_runV (b := a) (As := [.ref (F a 11), .ref (F a 1), .int 0]) (rest := []) S (c_X11_layStates l E K F tl 0 z1 z2 u12 z4 u1 u2 u3 z8 z9 z10 z11 z12 z13 z14 z15 z16 z17 z18 z19 z20 f31 ar1 f13 ar3 ar4 ar5 ar6 ar7 ar8 ar9 ar10 a (F a 11) (F a 1) 0 ha hk34 (XO.a hk35 (by decide)) hR) mv_X11_layStates km_X11_210 rfl rfl ⟨Nat.le_of_ble_eq_true rfl, Nat.le_of_ble_eq_true rfl⟩ (rc_13 hK hT ha) hK (fun _ => XP.blind) (fun U hU hW => XP.at hK hz hS hT hU hW) rfl hl.1 (Nat.le_of_ble_eq_true rfl) dX11_back_159 ⟨Nat.le_of_ble_eq_true rfl, Nat.le_of_ble_eq_true rfl⟩) hS ?_
            rintro _ H locs - hT hS
            refine lv_aload_n hx hb dX11_back_162 rfl (lv_at hl 0 rfl) ?_
            refine lv_aload_n hx hb dX11_back_163 rfl (lv_at hl 0 rfl) ?_
            refine gX11_13 S hK hT ha kf_X11_42 dX11_back_164 (fun hk38 => ?_)
            refine lv_aload_n hx hb dX11_back_167 rfl (lv_at hl 0 rfl) ?_
            refine gX11_2 S hK hT ha kf_X11_15 dX11_back_168 (fun hk39 => ?_)
            refine lv_iconst (v := 0) hx hb dX11_back_171 (by decide) ?_
            refine x_cv0 (x_runV (b := a) (As := [.ref (F a 13), .ref (F a 2), .int 0]) (rest := []) S (c_X11_layStates l E K F tl 0 z1 z2 u12 z4 u1 u2 u3 z8 z9 z10 z11 z12 z13 z14 z15 z16 z17 z18 z19 z20 f31 ar1 f13 ar3 ar4 ar5 ar6 ar7 ar8 ar9 ar10 a (F a 13) (F a 2) 0 ha hk38 (XO.b hk39 (by decide)) hR) mv_X11_layStates km_X11_210 rfl rfl ⟨Nat.le_of_ble_eq_true rfl, Nat.le_of_ble_eq_true rfl⟩ (rc_13 hK hT ha) hK (fun _ => XP.blind) (fun U hU hW => XP.at hK hz hS hT hU hW) rfl hl.1 (Nat.le_of_ble_eq_true rfl) dX11_back_172 ⟨Nat.le_of_ble_eq_true rfl, Nat.le_of_ble_eq_true rfl⟩) hS ?_
            rintro _ H locs - hT hS
            refine lv_aload_n hx hb dX11_back_175 rfl (lv_at hl 0 rfl) ?_
            refine lv_aload_n hx hb dX11_back_176 rfl (lv_at hl 0 rfl) ?_
            refine gX11_12 S hK hT ha kf_X11_39 dX11_back_177 (fun hk42 => ?_)
            refine lv_aload_n hx hb dX11_back_180 rfl (lv_at hl 0 rfl) ?_
            refine gX11_11 S hK hT ha kf_X11_36 dX11_back_181 (fun hk43 => ?_)
            refine lv_iconst (v := 2) hx hb dX11_back_184 (by decide) ?_
            refine x_cv0 (x_runV (b := a) (As := [.ref (F a 12), .ref (F a 11), .int 2]) (rest := []) S (c_X11_moves l E K F tl 0 z1 z2 u12 z4 u1 u2 u3 z8 z9 z10 z11 z12 z13 z14 z15 z16 z17 z18 z19 z20 f31 ar1 f13 ar3 ar4 ar5 ar6 ar7 ar8 ar9 ar10 a (F a 12) (F a 11) 2 ha hk42 hk43 hR (by decide)) mv_X11_moves km_X11_334 rfl rfl ⟨Nat.le_of_ble_eq_true rfl, Nat.le_of_ble_eq_true rfl⟩ (rc_13 hK hT ha) hK (fun _ => XP.blind) (fun U hU hW => XP.at hK hz hS hT hU hW) rfl hl.1 (Nat.le_of_ble_eq_true rfl) dX11_back_185 ⟨Nat.le_of_ble_eq_true rfl, Nat.le_of_ble_eq_true rfl⟩) hS ?_
            rintro _ H locs - hT hS
            refine lv_aload_n hx hb dX11_back_188 rfl (lv_at hl 0 rfl) ?_
            refine lv_iload_n hx hb dX11_back_189 rfl (lv_at hl 1 rfl) ?_
            refine lv_iconst (v := 1) hx hb dX11_back_190 (by decide) ?_
            refine xi_iadd hx hb (rfl : Int32.toInt p0 = p0.toInt) ((by decide) : Int32.toInt 1 = (1 : Int)) dX11_back_191 (fun x46 t47 => ?_)
            refine pX11_7 (kq := []) (v := x46) S hK hT hS ha kf_X11_373 (Nat.le_of_ble_eq_true rfl) dX11_back_192 (fun _ h => by cases h) (fun H locs hT hS => ?_)
            have hT : TW E K F (tl, [0, z1, x46, u12, z4, u1, u2, u3, z8, z9, z10, z11, z12, z13, z14, z15, z16, z17, z18, z19, z20], [f31, ar1, f13, ar3, ar4, ar5, ar6, ar7, ar8, ar9, ar10]) [] H := hT
            refine lv_aload_n hx hb dX11_back_195 rfl (lv_at hl 0 rfl) ?_
            refine x_cl0 (x_runV (b := a) (As := []) (rest := []) S (c_X11_queueMany l E K F tl 0 z1 x46 u12 z4 u1 u2 u3 z8 z9 z10 z11 z12 z13 z14 z15 z16 z17 z18 z19 z20 f31 ar1 f13 ar3 ar4 ar5 ar6 ar7 ar8 ar9 ar10 a ha hR) mv_X11_queueMany km_X11_379 rfl rfl ⟨Nat.le_of_ble_eq_true rfl, Nat.le_of_ble_eq_true rfl⟩ (rc_13 hK hT ha) hK (fun _ => XP.blind) (fun U hU hW => XP.at hK hz hS hT hU hW) rfl hl.1 (Nat.le_of_ble_eq_true rfl) dX11_back_196 ⟨Nat.le_of_ble_eq_true rfl, Nat.le_of_ble_eq_true rfl⟩) hS ?_
            rintro _ ⟨u48, u49, f50, f51, f52⟩ H locs ⟨x54, rfl, t53⟩ hT hS
            have hT : TW E K F (tl, [0, z1, x46, u48, u49, u1, u2, u3, z8, z9, z10, z11, z12, z13, z14, z15, z16, z17, z18, z19, z20], [f31, ar1, f50, f51, f52, ar5, ar6, ar7, ar8, ar9, ar10]) [] H := hT
            have t53 : 0 ≤ u49.toInt ∧ u49.toInt ≤ 2388 ∧ u49.toInt ≤ (((fV ar1 f51 f52) : Nat) : Int) := t53
            exact x_ri hx hb hr hlk hQ (Nat.le_of_ble_eq_true rfl) (Nat.le_of_ble_eq_true rfl) hS dX11_back_199 (0, x46, u48, u49, u1, u2, u3, f31, f50, f51, f52) ⟨_, rfl, (z_X11_back_3 p0.toInt u3.toInt x28.toInt x46.toInt x9.toInt z2.toInt e0 t4 t8 (xbz b10) c11 t29 t47 (xr p0) (xr u3) (xr x28) (xr x46) (xr x9) (xr z2))⟩ hT.nil
          · refine lv_aload_n hx hb dX11_back_44 rfl (lv_at hl 0 rfl) ?_
            refine gX11_15 S hK hT ha kf_X11_48 dX11_back_45 (fun hk56 => ?_)
            refine lv_iload_n hx hb dX11_back_48 rfl (lv_at hl 2 rfl) ?_
            refine tld_0 S hK hT hk56 (at_42 (f := f13) rfl) (by decide) (z_X11_back_4 u12.toInt x17.toInt N18 (oV ar1 f13) t14 hf19 hm20 c22 (xr u12) (xr x17)) dX11_back_49 (fun x57 w58 o59 => ?_)
            have v61 : 0 ≤ x57.toInt ∧ x57.toInt ≤ 11 ∧ 0 ≤ (aI ar1 (10 * x57.toInt + (0 : Int))) := oV_get w58 (z_X11_back_5 u12.toInt x17.toInt N18 (oV ar1 f13) t14 hf19 hm20 c22 (xr u12) (xr x17))
            have v62 : (-1 ≤ (aI ar1 (10 * x57.toInt + (0 : Int))) ∧ (aI ar1 (10 * x57.toInt + (0 : Int))) ≤ 5) ∧ (0 ≤ (aI ar1 (10 * x57.toInt + (1 : Int))) ∧ (aI ar1 (10 * x57.toInt + (1 : Int))) ≤ 2) ∧ (0 ≤ (aI ar1 (10 * x57.toInt + (2 : Int))) ∧ (aI ar1 (10 * x57.toInt + (2 : Int))) ≤ 2) ∧ (-1 ≤ (aI ar1 (10 * x57.toInt + (3 : Int))) ∧ (aI ar1 (10 * x57.toInt + (3 : Int))) ≤ 2) ∧ ((aI ar1 (10 * x57.toInt + (0 : Int))) = 1 ∨ (aI ar1 (10 * x57.toInt + (0 : Int))) = 3 ∨ (aI ar1 (10 * x57.toInt + (0 : Int))) = 4 → 0 ≤ (aI ar1 (10 * x57.toInt + (3 : Int)))) := RV.row hR (z_X11_back_6 x57.toInt (aI ar1 (10 * x57.toInt + (0 : Int))) (aI f13 x17.toInt) w58 v61 (xr x57))
            refine lv_istore_n (lv' := [(3, .int x57), (0, .ref a), (1, .int p0), (2, .int x17)]) hx hb dX11_back_50 rfl hl (by decide) rfl (fun ls hl => ?_)
            refine lv_aload_n hx hb dX11_back_51 rfl (lv_at hl 1 rfl) ?_
            refine lv_iload_n hx hb dX11_back_52 rfl (lv_at hl 0 rfl) ?_
            refine x_clp (x_runV (b := a) (As := [.int x57]) (rest := []) S (c_X11_firstSubject l E K F tl 0 z1 z2 u12 z4 u1 u2 u3 z8 z9 z10 z11 z12 z13 z14 z15 z16 z17 z18 z19 z20 ar0 ar1 f13 ar3 ar4 ar5 ar6 ar7 ar8 ar9 ar10 H a x57 ha hR (z_X11_back_7 x57.toInt (aI ar1 (10 * x57.toInt + (0 : Int))) (aI ar1 (10 * x57.toInt + (3 : Int))) (aI f13 x17.toInt) w58 v61 (v62).1 (v62).2.2.2.1 (v62).2.2.2.2 (xr x57))) mv_X11_firstSubject km_X11_179 rfl rfl ⟨Nat.le_of_ble_eq_true rfl, Nat.le_of_ble_eq_true rfl⟩ (rc_13 hK hT ha) hK (fun _ => XPh.blind) (fun U hU hW => XPh.at hK hz hS hT hU hW) rfl hl.1 (Nat.le_of_ble_eq_true rfl) dX11_back_53 ⟨Nat.le_of_ble_eq_true rfl, Nat.le_of_ble_eq_true rfl⟩) hS ?_
            rintro _ _ locs ⟨x64, rfl, t63⟩ hS
            have t63 : x64.toInt = (aF ar1 x57.toInt) ∧ -99 ≤ (aF ar1 x57.toInt) ∧ (aF ar1 x57.toInt) ≤ 0 ∧ 29 ≤ (aL ar1 x57.toInt) ∧ (aL ar1 x57.toInt) ≤ 99 ∧ (aL ar1 x57.toInt) - (aF ar1 x57.toInt) ≤ 198 := t63
            refine lv_istore (lv' := [(4, .int x64), (3, .int x57), (0, .ref a), (1, .int p0), (2, .int x17)]) hx hb dX11_back_56 hl (by decide) rfl (fun ls hl => ?_)
            have L58 : ∀ (N67 : Nat) (x66 : Int32) (H : Heap) (locs : List Loc) (ls : Array Slot), (aF ar1 x57.toInt) ≤ x66.toInt ∧ x66.toInt ≤ (aL ar1 x57.toInt) + 1 → 2147483648 - x66.toInt < ((N67 : Nat) : Int) → TW E K F (tl, [0, z1, z2, u12, z4, u1, u2, u3, z8, z9, z10, z11, z12, z13, z14, z15, z16, z17, z18, z19, z20], [ar0, ar1, f13, ar3, ar4, ar5, ar6, ar7, ar8, ar9, ar10]) [] H → va_S (xA E) s.heap H locs → lv_has ls 5 [(0, .ref a), (1, .int p0), (2, .int x17), (3, .int x57), (4, .int x66)] → W p l e rm_X11_back s m args below meth c H locs 0 0 Q (F0 m 58 ls []) := by
              intro N67
              induction N67 with
              | zero =>
                intro x66 H locs ls hf68 hm69
                exact absurd hm69 (z_X11_back_8 x64.toInt x66.toInt (aF ar1 x57.toInt) (aL ar1 x57.toInt) hf68 t63 (xr x64) (xr x66))
              | succ N67 ih70 =>
                intro x66 H locs ls hf68 hm69 hT hS hl
                refine lv_iload hx hb dX11_back_58 (lv_at hl 4 rfl) ?_
                refine lv_aload_n hx hb dX11_back_60 rfl (lv_at hl 0 rfl) ?_
                refine lv_iload_n hx hb dX11_back_61 rfl (lv_at hl 3 rfl) ?_
                refine x_clp (x_runV (b := a) (As := [.int x57]) (rest := [.int x66]) S (c_X11_lastSubject l E K F tl 0 z1 z2 u12 z4 u1 u2 u3 z8 z9 z10 z11 z12 z13 z14 z15 z16 z17 z18 z19 z20 ar0 ar1 f13 ar3 ar4 ar5 ar6 ar7 ar8 ar9 ar10 H a x57 ha hR (z_X11_back_9 x57.toInt (aI ar1 (10 * x57.toInt + (0 : Int))) (aI ar1 (10 * x57.toInt + (3 : Int))) (aI f13 x17.toInt) w58 v61 (v62).1 (v62).2.2.2.1 (v62).2.2.2.2 (xr x57))) mv_X11_lastSubject km_X11_183 rfl rfl ⟨Nat.le_of_ble_eq_true rfl, Nat.le_of_ble_eq_true rfl⟩ (rc_13 hK hT ha) hK (fun _ => XPh.blind) (fun U hU hW => XPh.at hK hz hS hT hU hW) rfl hl.1 (Nat.le_of_ble_eq_true rfl) dX11_back_62 ⟨Nat.le_of_ble_eq_true rfl, Nat.le_of_ble_eq_true rfl⟩) hS ?_
                rintro _ _ locs ⟨x72, rfl, t71⟩ hS
                have t71 : x72.toInt = (aL ar1 x57.toInt) ∧ -99 ≤ (aF ar1 x57.toInt) ∧ (aF ar1 x57.toInt) ≤ 0 ∧ 29 ≤ (aL ar1 x57.toInt) ∧ (aL ar1 x57.toInt) ≤ 99 ∧ (aL ar1 x57.toInt) - (aF ar1 x57.toInt) ≤ 198 := t71
                have J113 : ∀ (H : Heap) (locs : List Loc) (ls : Array Slot), TW E K F (tl, [0, z1, z2, u12, z4, u1, u2, u3, z8, z9, z10, z11, z12, z13, z14, z15, z16, z17, z18, z19, z20], [ar0, ar1, f13, ar3, ar4, ar5, ar6, ar7, ar8, ar9, ar10]) [] H → va_S (xA E) s.heap H locs → lv_has ls 5 [(0, .ref a), (1, .int p0), (2, .int x17)] → W p l e rm_X11_back s m args below meth c H locs 0 0 Q (F0 m 113 ls []) := by
                  intro H locs ls hT hS hl
                  refine xi_iinc (n := 1) (lv' := fun z9 => [(2, .int z9), (0, .ref a), (1, .int p0)]) (k := 2) hx hb (rfl : Int32.toInt x17 = x17.toInt) (by decide) dX11_back_113 hl rfl (by decide) (fun _ => rfl) (fun x74 ls t75 hl => ?_)
                  have hl : lv_has ls 5 [(2, .int x74), (0, .ref a), (1, .int p0)] := hl
                  refine lv_goto (tgt := 36) hx hb dX11_back_116 (by decide) ?_
                  exact ih21 x74 _ _ _ (z_X11_back_10 u12.toInt x17.toInt x74.toInt N18 (oV ar1 f13) t14 hf19 hm20 c22 t75 (xr u12) (xr x17) (xr x74)) (z_X11_back_11 u12.toInt x17.toInt x74.toInt N18 (oV ar1 f13) t14 hf19 hm20 c22 t75 (xr u12) (xr x17) (xr x74)) hT.nil hS (lv_sub hl [1, 2, 0] rfl)
                refine xi_cgt (tgt := 113) hx hb (rfl : Int32.toInt x66 = x66.toInt) (rfl : Int32.toInt x72 = x72.toInt) dX11_back_65 (by decide) (fun c76 => ?_) (fun c76 => ?_)
                · exact J113 _ _ _ hT.nil hS (lv_sub hl [0, 1, 2] rfl)
                · refine lv_aload_n hx hb dX11_back_68 rfl (lv_at hl 0 rfl) ?_
                  refine lv_iload_n hx hb dX11_back_69 rfl (lv_at hl 3 rfl) ?_
                  refine lv_bipush (v := 6) hx hb dX11_back_70 (by decide) ?_
                  refine x_clp (x_runV (b := a) (As := [.int x57, .int 6]) (rest := []) S (c_X11_of l E K F tl 0 z1 z2 u12 z4 u1 u2 u3 z8 z9 z10 z11 z12 z13 z14 z15 z16 z17 z18 z19 z20 ar0 ar1 f13 ar3 ar4 ar5 ar6 ar7 ar8 ar9 ar10 H a x57 6 ha (z_X11_back_12 x57.toInt (aI ar1 (10 * x57.toInt + (0 : Int))) (aI ar1 (10 * x57.toInt + (3 : Int))) (aI f13 x17.toInt) w58 v61 (v62).1 (v62).2.2.2.1 (v62).2.2.2.2 (xr x57)) (by decide)) mv_X11_of km_X11_165 rfl rfl ⟨Nat.le_of_ble_eq_true rfl, Nat.le_of_ble_eq_true rfl⟩ (rc_13 hK hT ha) hK (fun _ => XPh.blind) (fun U hU hW => XPh.at hK hz hS hT hU hW) rfl hl.1 (Nat.le_of_ble_eq_true rfl) dX11_back_72 ⟨Nat.le_of_ble_eq_true rfl, Nat.le_of_ble_eq_true rfl⟩) hS ?_
                  rintro _ _ locs ⟨x78, rfl, t77⟩ hS
                  have t77 : x78.toInt = (aI ar1 (10 * x57.toInt + (6 : Int))) := t77
                  refine xi_zne (tgt := 113) hx hb (rfl : Int32.toInt x78 = x78.toInt) dX11_back_75 (by decide) (fun c80 => ?_) (fun c80 => ?_)
                  · exact J113 _ _ _ hT.nil hS (lv_sub hl [0, 1, 2] rfl)
                  · refine lv_aload_n hx hb dX11_back_78 rfl (lv_at hl 0 rfl) ?_
                    refine lv_iload_n hx hb dX11_back_79 rfl (lv_at hl 3 rfl) ?_
                    refine lv_iload hx hb dX11_back_80 (lv_at hl 4 rfl) ?_
                    refine lv_aload_n hx hb dX11_back_82 rfl (lv_at hl 0 rfl) ?_
                    refine gX11_3 S hK hT ha kf_X11_18 dX11_back_83 (fun hk81 => ?_)
                    refine lv_sipush (v := 360) hx hb dX11_back_86 (by decide) ?_
                    refine lv_iload_n hx hb dX11_back_89 rfl (lv_at hl 1 rfl) ?_
                    refine xi_imul hx hb ((by decide) : Int32.toInt 360 = (360 : Int)) (rfl : Int32.toInt p0 = p0.toInt) dX11_back_90 (fun x82 t83 => ?_)
                    refine x_clp (x_runV (b := a) (As := [.int x57, .int x66, .ref (F a 3), .int x82]) (rest := []) S (c_X11_fails l E K F tl 0 z1 z2 u12 z4 u1 u2 u3 z8 z9 z10 z11 z12 z13 z14 z15 z16 z17 z18 z19 z20 ar0 ar1 f13 ar3 ar4 ar5 ar6 ar7 ar8 ar9 ar10 H a x57 x66 (F a 3) x82 ha (XO.c hk81 (z_X11_back_13 p0.toInt x82.toInt x9.toInt z2.toInt e0 t8 (xbz b10) c11 t83 (xr p0) (xr x82) (xr x9) (xr z2))) hR (z_X11_back_14 x57.toInt (aI ar1 (10 * x57.toInt + (0 : Int))) (aI ar1 (10 * x57.toInt + (3 : Int))) (aI f13 x17.toInt) w58 v61 (v62).1 (v62).2.2.2.1 (v62).2.2.2.2 (xr x57)) (z_X11_back_15 x57.toInt (aI ar1 (10 * x57.toInt + (0 : Int))) (aI ar1 (10 * x57.toInt + (3 : Int))) (aI f13 x17.toInt) w58 v61 (v62).1 (v62).2.2.2.1 (v62).2.2.2.2 (xr x57)) (z_X11_back_16 x64.toInt x66.toInt x72.toInt N67 (aF ar1 x57.toInt) (aL ar1 x57.toInt) t63 hf68 hm69 t71 c76 (xr x64) (xr x66) (xr x72))) mv_X11_fails km_X11_221 rfl rfl ⟨Nat.le_of_ble_eq_true rfl, Nat.le_of_ble_eq_true rfl⟩ (rc_13 hK hT ha) hK (fun _ => XPh.blind) (fun U hU hW => XPh.at hK hz hS hT hU hW) rfl hl.1 (Nat.le_of_ble_eq_true rfl) dX11_back_91 ⟨Nat.le_of_ble_eq_true rfl, Nat.le_of_ble_eq_true rfl⟩) hS ?_
                    rintro _ _ locs ⟨x84, rfl, b85⟩ hS
                    refine xi_zeq (tgt := 107) hx hb (rfl : Int32.toInt x84 = x84.toInt) dX11_back_94 (by decide) (fun c86 => ?_) (fun c86 => ?_)
                    · refine xi_iinc (n := 1) (lv' := fun z9 => [(4, .int z9), (0, .ref a), (1, .int p0), (2, .int x17), (3, .int x57)]) (k := 4) hx hb (rfl : Int32.toInt x66 = x66.toInt) (by decide) dX11_back_107 hl rfl (by decide) (fun _ => rfl) (fun x87 ls t88 hl => ?_)
                      have hl : lv_has ls 5 [(4, .int x87), (0, .ref a), (1, .int p0), (2, .int x17), (3, .int x57)] := hl
                      refine lv_goto (tgt := 58) hx hb dX11_back_110 (by decide) ?_
                      exact ih70 x87 _ _ _ (z_X11_back_17 x64.toInt x66.toInt x72.toInt x87.toInt N67 (aF ar1 x57.toInt) (aL ar1 x57.toInt) t63 hf68 hm69 t71 c76 t88 (xr x64) (xr x66) (xr x72) (xr x87)) (z_X11_back_18 x64.toInt x66.toInt x72.toInt x87.toInt N67 (aF ar1 x57.toInt) (aL ar1 x57.toInt) t63 hf68 hm69 t71 c76 t88 (xr x64) (xr x66) (xr x72) (xr x87)) hT.nil hS (lv_sub hl [1, 2, 3, 4, 0] rfl)
                    · refine lv_aload_n hx hb dX11_back_97 rfl (lv_at hl 0 rfl) ?_
                      refine lv_iload_n hx hb dX11_back_98 rfl (lv_at hl 3 rfl) ?_
                      refine lv_iload hx hb dX11_back_99 (lv_at hl 4 rfl) ?_
                      refine x_cv0 (x_runV (b := a) (As := [.int x57, .int x66]) (rest := []) S (c_X11_failed l E K F tl 0 z1 z2 u12 z4 u1 u2 u3 z8 z9 z10 z11 z12 z13 z14 z15 z16 z17 z18 z19 z20 ar0 ar1 f13 ar3 ar4 ar5 ar6 ar7 ar8 ar9 ar10 a x57 x66 ha (z_X11_back_19 x57.toInt (aI ar1 (10 * x57.toInt + (0 : Int))) (aI ar1 (10 * x57.toInt + (3 : Int))) (aI f13 x17.toInt) w58 v61 (v62).1 (v62).2.2.2.1 (v62).2.2.2.2 (xr x57))) mv_X11_failed km_X11_299 rfl rfl ⟨Nat.le_of_ble_eq_true rfl, Nat.le_of_ble_eq_true rfl⟩ (rc_13 hK hT ha) hK (fun _ => XP.blind) (fun U hU hW => XP.at hK hz hS hT hU hW) rfl hl.1 (Nat.le_of_ble_eq_true rfl) dX11_back_101 ⟨Nat.le_of_ble_eq_true rfl, Nat.le_of_ble_eq_true rfl⟩) hS ?_
                      rintro ⟨u89, u90, u91⟩ H locs t92 hT hS
                      have hT : TW E K F (tl, [0, z1, z2, u12, z4, u89, u90, u91, z8, z9, z10, z11, z12, z13, z14, z15, z16, z17, z18, z19, z20], [ar0, ar1, f13, ar3, ar4, ar5, ar6, ar7, ar8, ar9, ar10]) [] H := hT
                      have t92 : 0 ≤ u91.toInt ∧ u91.toInt ≤ 24 := t92
                      refine lv_bipush (v := (-5)) hx hb dX11_back_104 (by decide) ?_
                      exact x_ri hx hb hr hlk hQ (Nat.le_of_ble_eq_true rfl) (Nat.le_of_ble_eq_true rfl) hS dX11_back_106 (0, z2, u12, z4, u89, u90, u91, ar0, f13, ar3, ar4) ⟨_, rfl, (z_X11_back_20 p0.toInt u91.toInt x82.toInt x9.toInt z2.toInt e0 t8 (xbz b10) c11 t83 t92 (xr p0) (xr u91) (xr x82) (xr x9) (xr z2))⟩ hT.nil
            exact L58 4294967297 x64 _ _ _ (z_X11_back_21 x64.toInt (aF ar1 x57.toInt) (aL ar1 x57.toInt) t63 (xr x64)) (z_X11_back_22 x64.toInt (aF ar1 x57.toInt) (aL ar1 x57.toInt) t63 (xr x64)) hT.nil hS (lv_sub hl [2, 3, 4, 1, 0] rfl)
      exact L36 4294967297 0 _ _ _ (by decide) (by decide) hT.nil hS (lv_sub hl [1, 2, 0] rfl)
    · refine lv_bipush (v := (-2)) hx hb dX11_back_27 (by decide) ?_
      exact x_ri hx hb hr hlk hQ (Nat.le_of_ble_eq_true rfl) (Nat.le_of_ble_eq_true rfl) hS dX11_back_29 (0, z2, z3, z4, u1, u2, u3, ar0, ar2, ar3, ar4) ⟨_, rfl, (z_X11_back_23 p0.toInt u3.toInt x9.toInt z2.toInt e0 t4 t8 (xbz b10) c11 (xr p0) (xr u3) (xr x9) (xr z2))⟩ hT.nil
  · refine lv_bipush (v := (-3)) hx hb dX11_back_16 (by decide) ?_
    exact x_ri hx hb hr hlk hQ (Nat.le_of_ble_eq_true rfl) (Nat.le_of_ble_eq_true rfl) hS dX11_back_18 (0, z2, z3, z4, u1, u2, u3, ar0, ar2, ar3, ar4) ⟨_, rfl, (z_X11_back_24 u3.toInt z2.toInt e0 t4 (xr u3) (xr z2))⟩ hT.nil

theorem z_X11_value_1 (a0 : Int) (a1 : Int) (a2 : Int) (a3 : Int) (a4 : Int) (a5 : Int) (a6 : Int) (a7 : Int) (a8 : Int) (h0 : a5 = 0 ∨ (a5 = 1 ∧ 0 ≤ a0 ∧ a0 ≤ 2 ∧ 0 ≤ a1 ∧ a1 ≤ 29 ∧ a8 = 1)) (h1 : a5 = 0 ∨ a5 = 1) (h2 : a6 = 0 ∨ a6 = 1) (h3 : a6 = 0 → 0 ≤ a0 ∧ a0 ≤ 2 ∧ 0 ≤ a1 ∧ a1 ≤ 29 ∧ 0 ≤ a2 ∧ a2 ≤ 2) (h4 : ¬ (a6 ≠ 0)) (h5 : 0 ≤ a0 ∧ a0 ≤ 2 ∧ 0 ≤ a1 ∧ a1 ≤ 29 → a7 = 4 * (30 * a0 + a1)) (h6 : a3 = a7 + (1 : Int) ∨ a7 + (1 : Int) < -2147483648 ∨ 2147483648 ≤ a7 + (1 : Int)) (h7 : a4 = a3 + a2 ∨ a3 + a2 < -2147483648 ∨ 2147483648 ≤ a3 + a2) (r0 : -2147483648 ≤ a0 ∧ a0 < 2147483648) (r1 : -2147483648 ≤ a1 ∧ a1 < 2147483648) (r2 : -2147483648 ≤ a2 ∧ a2 < 2147483648) (r3 : -2147483648 ≤ a3 ∧ a3 < 2147483648) (r4 : -2147483648 ≤ a4 ∧ a4 < 2147483648) (r5 : -2147483648 ≤ a5 ∧ a5 < 2147483648) (r6 : -2147483648 ≤ a6 ∧ a6 < 2147483648) (r7 : -2147483648 ≤ a7 ∧ a7 < 2147483648) : 0 ≤ a4 ∧ a4 < ((360 : Nat) : Int) := by first | (clear h0 h1 h2 h3 h4 h5 h6; omega) | (clear h0 h1 h2 h4 h5; omega) | (clear h1; omega) | omega
theorem z_X11_value_2 (a0 : Int) (a1 : Int) (a2 : Int) (a3 : Int) (a4 : Int) (h0 : a3 = 0 ∨ (a3 = 1 ∧ 0 ≤ a0 ∧ a0 ≤ 2 ∧ 0 ≤ a1 ∧ a1 ≤ 29 ∧ a4 = 1)) (h1 : a3 = 0 ∨ a3 = 1) (r0 : -2147483648 ≤ a0 ∧ a0 < 2147483648) (r1 : -2147483648 ≤ a1 ∧ a1 < 2147483648) (r2 : -2147483648 ≤ a2 ∧ a2 < 2147483648) (r3 : -2147483648 ≤ a3 ∧ a3 < 2147483648) : ((1 : Int) = 0 ∨ (1 : Int) = 1) ∧ ((1 : Int) = 0 → 0 ≤ a0 ∧ a0 ≤ 2 ∧ 0 ≤ a1 ∧ a1 ≤ 29 ∧ 0 ≤ a2 ∧ a2 ≤ 2) := by omega
theorem z_X11_value_3 (a0 : Int) (a1 : Int) (a2 : Int) (a3 : Int) (a4 : Int) (a5 : Int) (h0 : a3 = 0 ∨ (a3 = 1 ∧ 0 ≤ a0 ∧ a0 ≤ 2 ∧ 0 ≤ a1 ∧ a1 ≤ 29 ∧ a5 = 1)) (h1 : a3 = 0 ∨ a3 = 1) (h2 : ¬ (a3 = 0)) (h3 : (a4 = 1 ∧ 0 ≤ a2 ∧ a2 ≤ 2) ∨ (a4 = 0 ∧ (a2 < 0 ∨ 2 < a2))) (h4 : a4 = 0 ∨ a4 = 1) (h5 : ¬ (a4 = 0)) (r0 : -2147483648 ≤ a0 ∧ a0 < 2147483648) (r1 : -2147483648 ≤ a1 ∧ a1 < 2147483648) (r2 : -2147483648 ≤ a2 ∧ a2 < 2147483648) (r3 : -2147483648 ≤ a3 ∧ a3 < 2147483648) (r4 : -2147483648 ≤ a4 ∧ a4 < 2147483648) : ((0 : Int) = 0 ∨ (0 : Int) = 1) ∧ ((0 : Int) = 0 → 0 ≤ a0 ∧ a0 ≤ 2 ∧ 0 ≤ a1 ∧ a1 ≤ 29 ∧ 0 ≤ a2 ∧ a2 ≤ 2) := by first | (clear h1 h2 h4 h5; omega) | omega
abbrev rm_X11_value : Room := { frames := 3, cells := 0, slots := 0, locals := 67 }
set_option maxHeartbeats 4000000 in
set_option maxRecDepth 100000 in
theorem c_X11_value (l : Launch) (E : XE) (K : Nat → Nat) (F : Nat → Nat → Nat) (tl z0 z1 z2 z3 z4 z5 z6 z7 z8 z9 z10 z11 z12 z13 z14 z15 z16 z17 z18 z19 z20 : Int32) (ar0 ar1 ar2 ar3 ar4 ar5 ar6 ar7 ar8 ar9 ar10 : Nat → Int32) (a : Nat) (p0 : Int32) (p1 : Int32) (p2 : Int32) (ha : K a = 13) : Met l yX11_value (xw yX11_value cX11_value 4 (some .int)) rm_X11_value (va_Pc [.ref a, .int p0, .int p1, .int p2] (XP E K F (tl, [z0, z1, z2, z3, z4, z5, z6, z7, z8, z9, z10, z11, z12, z13, z14, z15, z16, z17, z18, z19, z20], [ar0, ar1, ar2, ar3, ar4, ar5, ar6, ar7, ar8, ar9, ar10]))) (XQ E (fun v (u : Int32) => ∃ r : Int32, v = .int r) (fun u H => TW E K F (tl, [u, z1, z2, z3, z4, z5, z6, z7, z8, z9, z10, z11, z12, z13, z14, z15, z16, z17, z18, z19, z20], [ar0, ar1, ar2, ar3, ar4, ar5, ar6, ar7, ar8, ar9, ar10]) [] H)) 0 0 (xA E) := by
  refine x_enter (by decide) (Nat.le_of_ble_eq_true rfl) ?_
  intro p e s m args below meth c Q S hr hlk hnm hQ hP ls hl
  obtain ⟨hz, hK, hT⟩ := hP
  obtain ⟨hx, hb, -, -, -⟩ := id S
  obtain ⟨H, hT, hS, hgo⟩ : ∃ H : Heap, TW E K F (tl, [z0, z1, z2, z3, z4, z5, z6, z7, z8, z9, z10, z11, z12, z13, z14, z15, z16, z17, z18, z19, z20], [ar0, ar1, ar2, ar3, ar4, ar5, ar6, ar7, ar8, ar9, ar10]) [] H ∧ va_S (xA E) s.heap H [] ∧ H = s.heap := ⟨_, hT, va_S.rf, rfl⟩
  rw [← hgo]
  have hl : lv_has ls 4 [(0, .ref a), (1, .int p0), (2, .int p1), (3, .int p2)] := hl
  refine lv_aload_n hx hb dX11_value_0 rfl (lv_at hl 0 rfl) ?_
  refine lv_aload_n hx hb dX11_value_1 rfl (lv_at hl 0 rfl) ?_
  refine lv_iload_n hx hb dX11_value_2 rfl (lv_at hl 1 rfl) ?_
  refine lv_iload_n hx hb dX11_value_3 rfl (lv_at hl 2 rfl) ?_
  refine x_clp (x_runV (b := a) (As := [.int p0, .int p1]) (rest := [.ref a]) S (c_X11_isRow l E K F tl z0 z1 z2 z3 z4 z5 z6 z7 z8 z9 z10 z11 z12 z13 z14 z15 z16 z17 z18 z19 z20 ar0 ar1 ar2 ar3 ar4 ar5 ar6 ar7 ar8 ar9 ar10 H a p0 p1 ha) mv_X11_isRow km_X11_346 rfl rfl ⟨Nat.le_of_ble_eq_true rfl, Nat.le_of_ble_eq_true rfl⟩ (rc_13 hK hT ha) hK (fun _ => XPh.blind) (fun U hU hW => XPh.at hK hz hS hT hU hW) rfl hl.1 (Nat.le_of_ble_eq_true rfl) dX11_value_4 ⟨Nat.le_of_ble_eq_true rfl, Nat.le_of_ble_eq_true rfl⟩) hS ?_
  rintro _ _ locs ⟨x2, rfl, b3, t1⟩ hS
  have t1 : x2.toInt = 0 ∨ (x2.toInt = 1 ∧ 0 ≤ p0.toInt ∧ p0.toInt ≤ 2 ∧ 0 ≤ p1.toInt ∧ p1.toInt ≤ 29 ∧ (aI ar0 (4 * (30 * p0.toInt + p1.toInt))) = 1) := t1
  have J22 : ∀ (x4 : Int32) (H : Heap) (locs : List Loc) (ls : Array Slot), ((x4.toInt = 0 ∨ x4.toInt = 1) ∧ (x4.toInt = 0 → 0 ≤ p0.toInt ∧ p0.toInt ≤ 2 ∧ 0 ≤ p1.toInt ∧ p1.toInt ≤ 29 ∧ 0 ≤ p2.toInt ∧ p2.toInt ≤ 2)) → TW E K F (tl, [z0, z1, z2, z3, z4, z5, z6, z7, z8, z9, z10, z11, z12, z13, z14, z15, z16, z17, z18, z19, z20], [ar0, ar1, ar2, ar3, ar4, ar5, ar6, ar7, ar8, ar9, ar10]) [] H → va_S (xA E) s.heap H locs → lv_has ls 4 [(0, .ref a), (1, .int p0), (2, .int p1), (3, .int p2)] → W p l e rm_X11_value s m args below meth c H locs 0 0 Q (F0 m 22 ls [.int x4, .ref a]) := by
    intro x4 H locs ls hf5 hT hS hl
    refine pX11_0 (kq := []) (v := x4) S hK hT hS ha kf_X11_134 (Nat.le_of_ble_eq_true rfl) dX11_value_22 (fun _ h => by cases h) (fun H locs hT hS => ?_)
    have hT : TW E K F (tl, [x4, z1, z2, z3, z4, z5, z6, z7, z8, z9, z10, z11, z12, z13, z14, z15, z16, z17, z18, z19, z20], [ar0, ar1, ar2, ar3, ar4, ar5, ar6, ar7, ar8, ar9, ar10]) [] H := hT
    refine lv_aload_n hx hb dX11_value_25 rfl (lv_at hl 0 rfl) ?_
    refine gX11_0 S hK hT ha kf_X11_134 dX11_value_26 (v := x4) rfl ?_
    refine xi_zne (tgt := 49) hx hb (rfl : Int32.toInt x4 = x4.toInt) dX11_value_29 (by decide) (fun c6 => ?_) (fun c6 => ?_)
    · refine lv_iconst (v := 0) hx hb dX11_value_49 (by decide) ?_
      exact x_ri hx hb hr hlk hQ (Nat.le_of_ble_eq_true rfl) (Nat.le_of_ble_eq_true rfl) hS dX11_value_50 (x4) ⟨_, rfl⟩ hT.nil
    · refine lv_aload_n hx hb dX11_value_32 rfl (lv_at hl 0 rfl) ?_
      refine gX11_1 S hK hT ha kf_X11_9 dX11_value_33 (fun hk7 => ?_)
      refine lv_iload_n hx hb dX11_value_36 rfl (lv_at hl 1 rfl) ?_
      refine lv_iload_n hx hb dX11_value_37 rfl (lv_at hl 2 rfl) ?_
      refine x_clp (x_runS (As := [.int p0, .int p1]) (rest := [.ref (F a 1)]) S (c_X11_at l E K F tl x4 z1 z2 z3 z4 z5 z6 z7 z8 z9 z10 z11 z12 z13 z14 z15 z16 z17 z18 z19 z20 ar0 ar1 ar2 ar3 ar4 ar5 ar6 ar7 ar8 ar9 ar10 H p0 p1) ms_X11_at km_X11_156 rfl rfl ⟨Nat.le_of_ble_eq_true rfl, Nat.le_of_ble_eq_true rfl⟩ hK (fun _ => XPh.blind) (fun U hU hW => XPh.at hK hz hS hT hU hW) rfl hl.1 (Nat.le_of_ble_eq_true rfl) dX11_value_38 ⟨Nat.le_of_ble_eq_true rfl, Nat.le_of_ble_eq_true rfl⟩) hS ?_
      rintro _ _ locs ⟨x9, rfl, t8⟩ hS
      have t8 : 0 ≤ p0.toInt ∧ p0.toInt ≤ 2 ∧ 0 ≤ p1.toInt ∧ p1.toInt ≤ 29 → x9.toInt = 4 * (30 * p0.toInt + p1.toInt) := t8
      refine lv_iconst (v := 1) hx hb dX11_value_41 (by decide) ?_
      refine xi_iadd hx hb (rfl : Int32.toInt x9 = x9.toInt) ((by decide) : Int32.toInt 1 = (1 : Int)) dX11_value_42 (fun x11 t12 => ?_)
      refine lv_iload_n hx hb dX11_value_43 rfl (lv_at hl 3 rfl) ?_
      refine xi_iadd hx hb (rfl : Int32.toInt x11 = x11.toInt) (rfl : Int32.toInt p2 = p2.toInt) dX11_value_44 (fun x13 t14 => ?_)
      refine tld_0 S hK hT hk7 (at_30 (f := ar0) rfl) (by decide) (z_X11_value_1 p0.toInt p1.toInt p2.toInt x11.toInt x13.toInt x2.toInt x4.toInt x9.toInt (aI ar0 (4 * (30 * p0.toInt + p1.toInt))) t1 (xbz b3) (hf5).1 (hf5).2 c6 t8 t12 t14 (xr p0) (xr p1) (xr p2) (xr x11) (xr x13) (xr x2) (xr x4) (xr x9)) dX11_value_45 (fun x15 w16 o17 => ?_)
      refine lv_goto (tgt := 50) hx hb dX11_value_46 (by decide) ?_
      exact x_ri hx hb hr hlk hQ (Nat.le_of_ble_eq_true rfl) (Nat.le_of_ble_eq_true rfl) hS dX11_value_50 (x4) ⟨_, rfl⟩ hT.nil
  have J21 : ∀ (H : Heap) (locs : List Loc) (ls : Array Slot), TW E K F (tl, [z0, z1, z2, z3, z4, z5, z6, z7, z8, z9, z10, z11, z12, z13, z14, z15, z16, z17, z18, z19, z20], [ar0, ar1, ar2, ar3, ar4, ar5, ar6, ar7, ar8, ar9, ar10]) [] H → va_S (xA E) s.heap H locs → lv_has ls 4 [(0, .ref a), (1, .int p0), (2, .int p1), (3, .int p2)] → W p l e rm_X11_value s m args below meth c H locs 0 0 Q (F0 m 21 ls [.ref a]) := by
    intro H locs ls hT hS hl
    refine lv_iconst (v := 1) hx hb dX11_value_21 (by decide) ?_
    exact J22 1 _ _ _ (z_X11_value_2 p0.toInt p1.toInt p2.toInt x2.toInt (aI ar0 (4 * (30 * p0.toInt + p1.toInt))) t1 (xbz b3) (xr p0) (xr p1) (xr p2) (xr x2)) hT.nil hS (lv_sub hl [0, 1, 2, 3] rfl)
  refine xi_zeq (tgt := 21) hx hb (rfl : Int32.toInt x2 = x2.toInt) dX11_value_7 (by decide) (fun c19 => ?_) (fun c19 => ?_)
  · exact J21 _ _ _ hT.nil hS (lv_sub hl [0, 1, 2, 3] rfl)
  · refine lv_iload_n hx hb dX11_value_10 rfl (lv_at hl 3 rfl) ?_
    refine x_clp (x_runS (As := [.int p2]) (rest := [.ref a]) S (c_X11_isColumn l E K F tl z0 z1 z2 z3 z4 z5 z6 z7 z8 z9 z10 z11 z12 z13 z14 z15 z16 z17 z18 z19 z20 ar0 ar1 ar2 ar3 ar4 ar5 ar6 ar7 ar8 ar9 ar10 H p2) ms_X11_isColumn km_X11_356 rfl rfl ⟨Nat.le_of_ble_eq_true rfl, Nat.le_of_ble_eq_true rfl⟩ hK (fun _ => XPh.blind) (fun U hU hW => XPh.at hK hz hS hT hU hW) rfl hl.1 (Nat.le_of_ble_eq_true rfl) dX11_value_11 ⟨Nat.le_of_ble_eq_true rfl, Nat.le_of_ble_eq_true rfl⟩) hS ?_
    rintro _ _ locs ⟨x21, rfl, b22, t20⟩ hS
    have t20 : (x21.toInt = 1 ∧ 0 ≤ p2.toInt ∧ p2.toInt ≤ 2) ∨ (x21.toInt = 0 ∧ (p2.toInt < 0 ∨ 2 < p2.toInt)) := t20
    refine xi_zeq (tgt := 21) hx hb (rfl : Int32.toInt x21 = x21.toInt) dX11_value_14 (by decide) (fun c23 => ?_) (fun c23 => ?_)
    · exact J21 _ _ _ hT.nil hS (lv_sub hl [0, 1, 2, 3] rfl)
    · refine lv_iconst (v := 0) hx hb dX11_value_17 (by decide) ?_
      refine lv_goto (tgt := 22) hx hb dX11_value_18 (by decide) ?_
      exact J22 0 _ _ _ (z_X11_value_3 p0.toInt p1.toInt p2.toInt x2.toInt x21.toInt (aI ar0 (4 * (30 * p0.toInt + p1.toInt))) t1 (xbz b3) c19 t20 (xbz b22) c23 (xr p0) (xr p1) (xr p2) (xr x2) (xr x21)) hT.nil hS (lv_sub hl [0, 1, 2, 3] rfl)

theorem z_X11_rows_1 (a0 : Int) (h0 : (0 : Int) ≤ a0) (r0 : -2147483648 ≤ a0 ∧ a0 < 2147483648) : ¬ (2147483648 - a0 < ((0 : Nat) : Int)) := by omega
theorem z_X11_rows_2 (a0 : Int) (a1 : Int) (a2 : Int) (a3 : Int) (a4 : Nat) (h0 : (a2 = 1 ∧ 0 ≤ a0 ∧ a0 ≤ 2) ∨ (a2 = 0 ∧ (a0 < 0 ∨ 2 < a0))) (h1 : a2 = 0 ∨ a2 = 1) (h2 : ¬ (a2 = 0)) (h3 : (0 : Int) ≤ a1) (h4 : 2147483648 - a1 < ((a4 + 1 : Nat) : Int)) (h5 : ¬ ((30 : Int) ≤ a1)) (h6 : 0 ≤ a0 ∧ a0 ≤ 2 ∧ 0 ≤ a1 ∧ a1 ≤ 29 → a3 = 4 * (30 * a0 + a1)) (r0 : -2147483648 ≤ a0 ∧ a0 < 2147483648) (r1 : -2147483648 ≤ a1 ∧ a1 < 2147483648) (r2 : -2147483648 ≤ a2 ∧ a2 < 2147483648) (r3 : -2147483648 ≤ a3 ∧ a3 < 2147483648) : 0 ≤ a3 ∧ a3 < ((360 : Nat) : Int) := by first | (clear h0 h1 h2; omega) | (clear h1 h2; omega) | omega
theorem z_X11_rows_3 (a0 : Int) (a1 : Int) (a2 : Int) (a3 : Int) (a4 : Int) (a5 : Nat) (h0 : (a2 = 1 ∧ 0 ≤ a0 ∧ a0 ≤ 2) ∨ (a2 = 0 ∧ (a0 < 0 ∨ 2 < a0))) (h1 : a2 = 0 ∨ a2 = 1) (h2 : ¬ (a2 = 0)) (h3 : (0 : Int) ≤ a1) (h4 : 2147483648 - a1 < ((a5 + 1 : Nat) : Int)) (h5 : ¬ ((30 : Int) ≤ a1)) (h6 : 0 ≤ a0 ∧ a0 ≤ 2 ∧ 0 ≤ a1 ∧ a1 ≤ 29 → a3 = 4 * (30 * a0 + a1)) (h7 : 0 ≤ a0 ∧ a0 ≤ 2 ∧ 0 ≤ a1 ∧ a1 ≤ 29 → a4 = 4 * (30 * a0 + a1)) (r0 : -2147483648 ≤ a0 ∧ a0 < 2147483648) (r1 : -2147483648 ≤ a1 ∧ a1 < 2147483648) (r2 : -2147483648 ≤ a2 ∧ a2 < 2147483648) (r3 : -2147483648 ≤ a3 ∧ a3 < 2147483648) (r4 : -2147483648 ≤ a4 ∧ a4 < 2147483648) : 0 ≤ a4 ∧ a4 < ((360 : Nat) : Int) := by first | (clear h0 h1 h2 h6; omega) | (clear h1 h2; omega) | omega
theorem z_X11_rows_4 (a0 : Int) (a1 : Int) (a2 : Int) (a3 : Int) (a4 : Int) (a5 : Int) (a6 : Nat) (h0 : (a2 = 1 ∧ 0 ≤ a0 ∧ a0 ≤ 2) ∨ (a2 = 0 ∧ (a0 < 0 ∨ 2 < a0))) (h1 : a2 = 0 ∨ a2 = 1) (h2 : ¬ (a2 = 0)) (h3 : (0 : Int) ≤ a1) (h4 : 2147483648 - a1 < ((a6 + 1 : Nat) : Int)) (h5 : ¬ ((30 : Int) ≤ a1)) (h6 : 0 ≤ a0 ∧ a0 ≤ 2 ∧ 0 ≤ a1 ∧ a1 ≤ 29 → a3 = 4 * (30 * a0 + a1)) (h7 : 0 ≤ a0 ∧ a0 ≤ 2 ∧ 0 ≤ a1 ∧ a1 ≤ 29 → a4 = 4 * (30 * a0 + a1)) (h8 : a5 = a1 + 1 ∨ a1 + 1 < -2147483648 ∨ 2147483648 ≤ a1 + 1) (r0 : -2147483648 ≤ a0 ∧ a0 < 2147483648) (r1 : -2147483648 ≤ a1 ∧ a1 < 2147483648) (r2 : -2147483648 ≤ a2 ∧ a2 < 2147483648) (r3 : -2147483648 ≤ a3 ∧ a3 < 2147483648) (r4 : -2147483648 ≤ a4 ∧ a4 < 2147483648) (r5 : -2147483648 ≤ a5 ∧ a5 < 2147483648) : (0 : Int) ≤ a5 := by first | (clear h0 h1 h2 h6 h7; omega) | (clear h0 h1 h2; omega) | (clear h1 h2; omega) | omega
theorem z_X11_rows_5 (a0 : Int) (a1 : Int) (a2 : Int) (a3 : Int) (a4 : Int) (a5 : Int) (a6 : Nat) (h0 : (a2 = 1 ∧ 0 ≤ a0 ∧ a0 ≤ 2) ∨ (a2 = 0 ∧ (a0 < 0 ∨ 2 < a0))) (h1 : a2 = 0 ∨ a2 = 1) (h2 : ¬ (a2 = 0)) (h3 : (0 : Int) ≤ a1) (h4 : 2147483648 - a1 < ((a6 + 1 : Nat) : Int)) (h5 : ¬ ((30 : Int) ≤ a1)) (h6 : 0 ≤ a0 ∧ a0 ≤ 2 ∧ 0 ≤ a1 ∧ a1 ≤ 29 → a3 = 4 * (30 * a0 + a1)) (h7 : 0 ≤ a0 ∧ a0 ≤ 2 ∧ 0 ≤ a1 ∧ a1 ≤ 29 → a4 = 4 * (30 * a0 + a1)) (h8 : a5 = a1 + 1 ∨ a1 + 1 < -2147483648 ∨ 2147483648 ≤ a1 + 1) (r0 : -2147483648 ≤ a0 ∧ a0 < 2147483648) (r1 : -2147483648 ≤ a1 ∧ a1 < 2147483648) (r2 : -2147483648 ≤ a2 ∧ a2 < 2147483648) (r3 : -2147483648 ≤ a3 ∧ a3 < 2147483648) (r4 : -2147483648 ≤ a4 ∧ a4 < 2147483648) (r5 : -2147483648 ≤ a5 ∧ a5 < 2147483648) : 2147483648 - a5 < ((a6 : Nat) : Int) := by first | (clear h0 h1 h2 h6 h7; omega) | (clear h0 h1 h2; omega) | (clear h1 h2; omega) | omega
abbrev rm_X11_rows : Room := { frames := 2, cells := 0, slots := 0, locals := 45 }
set_option maxHeartbeats 4000000 in
set_option maxRecDepth 100000 in
theorem c_X11_rows (l : Launch) (E : XE) (K : Nat → Nat) (F : Nat → Nat → Nat) (tl z0 z1 z2 z3 z4 z5 z6 z7 z8 z9 z10 z11 z12 z13 z14 z15 z16 z17 z18 z19 z20 : Int32) (ar0 ar1 ar2 ar3 ar4 ar5 ar6 ar7 ar8 ar9 ar10 : Nat → Int32) (a : Nat) (p0 : Int32) (p1 : Int32) (ha : K a = 13) : Met l yX11_rows (xw yX11_rows cX11_rows 6 (some .int)) rm_X11_rows (va_Pc [.ref a, .int p0, .int p1] (XP E K F (tl, [z0, z1, z2, z3, z4, z5, z6, z7, z8, z9, z10, z11, z12, z13, z14, z15, z16, z17, z18, z19, z20], [ar0, ar1, ar2, ar3, ar4, ar5, ar6, ar7, ar8, ar9, ar10]))) (XQ E (fun v (u : Int32) => ∃ r : Int32, v = .int r) (fun u H => TW E K F (tl, [u, z1, z2, z3, z4, z5, z6, z7, z8, z9, z10, z11, z12, z13, z14, z15, z16, z17, z18, z19, z20], [ar0, ar1, ar2, ar3, ar4, ar5, ar6, ar7, ar8, ar9, ar10]) [] H)) 0 0 (xA E) := by
  refine x_enter (by decide) (Nat.le_of_ble_eq_true rfl) ?_
  intro p e s m args below meth c Q S hr hlk hnm hQ hP ls hl
  obtain ⟨hz, hK, hT⟩ := hP
  obtain ⟨hx, hb, -, -, -⟩ := id S
  obtain ⟨H, hT, hS, hgo⟩ : ∃ H : Heap, TW E K F (tl, [z0, z1, z2, z3, z4, z5, z6, z7, z8, z9, z10, z11, z12, z13, z14, z15, z16, z17, z18, z19, z20], [ar0, ar1, ar2, ar3, ar4, ar5, ar6, ar7, ar8, ar9, ar10]) [] H ∧ va_S (xA E) s.heap H [] ∧ H = s.heap := ⟨_, hT, va_S.rf, rfl⟩
  rw [← hgo]
  have hl : lv_has ls 6 [(0, .ref a), (1, .int p0), (2, .int p1)] := hl
  refine lv_aload_n hx hb dX11_rows_0 rfl (lv_at hl 0 rfl) ?_
  refine lv_iconst (v := 0) hx hb dX11_rows_1 (by decide) ?_
  refine pX11_0 (kq := []) (v := 0) S hK hT hS ha kf_X11_134 (Nat.le_of_ble_eq_true rfl) dX11_rows_2 (fun _ h => by cases h) (fun H locs hT hS => ?_)
  have hT : TW E K F (tl, [0, z1, z2, z3, z4, z5, z6, z7, z8, z9, z10, z11, z12, z13, z14, z15, z16, z17, z18, z19, z20], [ar0, ar1, ar2, ar3, ar4, ar5, ar6, ar7, ar8, ar9, ar10]) [] H := hT
  refine lv_iload_n hx hb dX11_rows_5 rfl (lv_at hl 1 rfl) ?_
  refine x_clp (x_runS (As := [.int p0]) (rest := []) S (c_X11_isTable l E K F tl 0 z1 z2 z3 z4 z5 z6 z7 z8 z9 z10 z11 z12 z13 z14 z15 z16 z17 z18 z19 z20 ar0 ar1 ar2 ar3 ar4 ar5 ar6 ar7 ar8 ar9 ar10 H p0) ms_X11_isTable km_X11_149 rfl rfl ⟨Nat.le_of_ble_eq_true rfl, Nat.le_of_ble_eq_true rfl⟩ hK (fun _ => XPh.blind) (fun U hU hW => XPh.at hK hz hS hT hU hW) rfl hl.1 (Nat.le_of_ble_eq_true rfl) dX11_rows_6 ⟨Nat.le_of_ble_eq_true rfl, Nat.le_of_ble_eq_true rfl⟩) hS ?_
  rintro _ _ locs ⟨x2, rfl, b3, t1⟩ hS
  have t1 : (x2.toInt = 1 ∧ 0 ≤ p0.toInt ∧ p0.toInt ≤ 2) ∨ (x2.toInt = 0 ∧ (p0.toInt < 0 ∨ 2 < p0.toInt)) := t1
  refine xi_zeq (tgt := 22) hx hb (rfl : Int32.toInt x2 = x2.toInt) dX11_rows_9 (by decide) (fun c4 => ?_) (fun c4 => ?_)
  · refine lv_iconst (v := (-1)) hx hb dX11_rows_22 (by decide) ?_
    exact x_ri hx hb hr hlk hQ (Nat.le_of_ble_eq_true rfl) (Nat.le_of_ble_eq_true rfl) hS dX11_rows_23 (0) ⟨_, rfl⟩ hT.nil
  · refine lv_iload_n hx hb dX11_rows_12 rfl (lv_at hl 2 rfl) ?_
    refine lv_i2l (v := p1.toInt64) hx hb dX11_rows_13 rfl ?_
    refine lv_lconst (v := (0 : Int64)) hx hb dX11_rows_14 (by decide) ?_
    refine lv_lconst (v := (1 : Int64)) hx hb dX11_rows_15 (by decide) ?_
    refine x_clp (x_runS (As := [.long p1.toInt64, .long (0 : Int64), .long (1 : Int64)]) (rest := []) S (c_X11_in l E K F tl 0 z1 z2 z3 z4 z5 z6 z7 z8 z9 z10 z11 z12 z13 z14 z15 z16 z17 z18 z19 z20 ar0 ar1 ar2 ar3 ar4 ar5 ar6 ar7 ar8 ar9 ar10 H p1.toInt64 (0 : Int64) (1 : Int64) p1.toInt (0 : Int) (1 : Int) (xl_i2l (rfl : Int32.toInt p1 = p1.toInt)) (by decide) (by decide)) ms_X11_in km_X11_139 rfl rfl ⟨Nat.le_of_ble_eq_true rfl, Nat.le_of_ble_eq_true rfl⟩ hK (fun _ => XPh.blind) (fun U hU hW => XPh.at hK hz hS hT hU hW) rfl hl.1 (Nat.le_of_ble_eq_true rfl) dX11_rows_16 ⟨Nat.le_of_ble_eq_true rfl, Nat.le_of_ble_eq_true rfl⟩) hS ?_
    rintro _ _ locs ⟨x5, rfl, b6, t7⟩ hS
    have t7 : (x5.toInt = 1 ∧ (0 : Int) ≤ p1.toInt ∧ p1.toInt ≤ (1 : Int)) ∨ (x5.toInt = 0 ∧ (p1.toInt < (0 : Int) ∨ (1 : Int) < p1.toInt)) := t7
    refine xi_zne (tgt := 24) hx hb (rfl : Int32.toInt x5 = x5.toInt) dX11_rows_19 (by decide) (fun c8 => ?_) (fun c8 => ?_)
    · refine lv_iconst (v := 0) hx hb dX11_rows_24 (by decide) ?_
      refine lv_istore_n (lv' := [(3, .int 0), (0, .ref a), (1, .int p0), (2, .int p1)]) hx hb dX11_rows_25 rfl hl (by decide) rfl (fun ls hl => ?_)
      refine lv_iconst (v := 0) hx hb dX11_rows_26 (by decide) ?_
      refine lv_istore (lv' := [(4, .int 0), (3, .int 0), (0, .ref a), (1, .int p0), (2, .int p1)]) hx hb dX11_rows_27 hl (by decide) rfl (fun ls hl => ?_)
      refine lv_iconst (v := 0) hx hb dX11_rows_29 (by decide) ?_
      refine lv_istore (lv' := [(5, .int 0), (4, .int 0), (3, .int 0), (0, .ref a), (1, .int p0), (2, .int p1)]) hx hb dX11_rows_30 hl (by decide) rfl (fun ls hl => ?_)
      have L32 : ∀ (N12 : Nat) (x9 : Int32) (x10 : Int32) (x11 : Int32) (H : Heap) (locs : List Loc) (ls : Array Slot), (0 : Int) ≤ x11.toInt → 2147483648 - x11.toInt < ((N12 : Nat) : Int) → TW E K F (tl, [0, z1, z2, z3, z4, z5, z6, z7, z8, z9, z10, z11, z12, z13, z14, z15, z16, z17, z18, z19, z20], [ar0, ar1, ar2, ar3, ar4, ar5, ar6, ar7, ar8, ar9, ar10]) [] H → va_S (xA E) s.heap H locs → lv_has ls 6 [(0, .ref a), (1, .int p0), (2, .int p1), (3, .int x9), (4, .int x10), (5, .int x11)] → W p l e rm_X11_rows s m args below meth c H locs 0 0 Q (F0 m 32 ls []) := by
        intro N12
        induction N12 with
        | zero =>
          intro x9 x10 x11 H locs ls hf13 hm14
          exact absurd hm14 (z_X11_rows_1 x11.toInt hf13 (xr x11))
        | succ N12 ih15 =>
          intro x9 x10 x11 H locs ls hf13 hm14 hT hS hl
          refine lv_iload hx hb dX11_rows_32 (lv_at hl 5 rfl) ?_
          refine lv_bipush (v := 30) hx hb dX11_rows_34 (by decide) ?_
          refine xi_cge (tgt := 78) hx hb (rfl : Int32.toInt x11 = x11.toInt) ((by decide) : Int32.toInt 30 = (30 : Int)) dX11_rows_36 (by decide) (fun c16 => ?_) (fun c16 => ?_)
          · refine lv_iload_n hx hb dX11_rows_78 rfl (lv_at hl 2 rfl) ?_
            refine xi_zne (tgt := 86) hx hb (rfl : Int32.toInt p1 = p1.toInt) dX11_rows_79 (by decide) (fun c17 => ?_) (fun c17 => ?_)
            · refine lv_iload hx hb dX11_rows_86 (lv_at hl 4 rfl) ?_
              exact x_ri hx hb hr hlk hQ (Nat.le_of_ble_eq_true rfl) (Nat.le_of_ble_eq_true rfl) hS dX11_rows_88 (0) ⟨_, rfl⟩ hT.nil
            · refine lv_iload_n hx hb dX11_rows_82 rfl (lv_at hl 3 rfl) ?_
              refine lv_goto (tgt := 88) hx hb dX11_rows_83 (by decide) ?_
              exact x_ri hx hb hr hlk hQ (Nat.le_of_ble_eq_true rfl) (Nat.le_of_ble_eq_true rfl) hS dX11_rows_88 (0) ⟨_, rfl⟩ hT.nil
          · refine lv_iload_n hx hb dX11_rows_39 rfl (lv_at hl 3 rfl) ?_
            refine lv_aload_n hx hb dX11_rows_40 rfl (lv_at hl 0 rfl) ?_
            refine gX11_1 S hK hT ha kf_X11_9 dX11_rows_41 (fun hk18 => ?_)
            refine lv_iload_n hx hb dX11_rows_44 rfl (lv_at hl 1 rfl) ?_
            refine lv_iload hx hb dX11_rows_45 (lv_at hl 5 rfl) ?_
            refine x_clp (x_runS (As := [.int p0, .int x11]) (rest := [.ref (F a 1), .int x9]) S (c_X11_at l E K F tl 0 z1 z2 z3 z4 z5 z6 z7 z8 z9 z10 z11 z12 z13 z14 z15 z16 z17 z18 z19 z20 ar0 ar1 ar2 ar3 ar4 ar5 ar6 ar7 ar8 ar9 ar10 H p0 x11) ms_X11_at km_X11_156 rfl rfl ⟨Nat.le_of_ble_eq_true rfl, Nat.le_of_ble_eq_true rfl⟩ hK (fun _ => XPh.blind) (fun U hU hW => XPh.at hK hz hS hT hU hW) rfl hl.1 (Nat.le_of_ble_eq_true rfl) dX11_rows_47 ⟨Nat.le_of_ble_eq_true rfl, Nat.le_of_ble_eq_true rfl⟩) hS ?_
            rintro _ _ locs ⟨x20, rfl, t19⟩ hS
            have t19 : 0 ≤ p0.toInt ∧ p0.toInt ≤ 2 ∧ 0 ≤ x11.toInt ∧ x11.toInt ≤ 29 → x20.toInt = 4 * (30 * p0.toInt + x11.toInt) := t19
            refine tld_0 S hK hT hk18 (at_30 (f := ar0) rfl) (by decide) (z_X11_rows_2 p0.toInt x11.toInt x2.toInt x20.toInt N12 t1 (xbz b3) c4 hf13 hm14 c16 t19 (xr p0) (xr x11) (xr x2) (xr x20)) dX11_rows_50 (fun x22 w23 o24 => ?_)
            refine xi_iadd hx hb (rfl : Int32.toInt x9 = x9.toInt) (rfl : Int32.toInt x22 = x22.toInt) dX11_rows_51 (fun x26 t27 => ?_)
            refine lv_istore_n (lv' := [(3, .int x26), (0, .ref a), (1, .int p0), (2, .int p1), (4, .int x10), (5, .int x11)]) hx hb dX11_rows_52 rfl hl (by decide) rfl (fun ls hl => ?_)
            refine lv_iload hx hb dX11_rows_53 (lv_at hl 4 rfl) ?_
            refine lv_aload_n hx hb dX11_rows_55 rfl (lv_at hl 1 rfl) ?_
            refine gX11_1 S hK hT ha kf_X11_9 dX11_rows_56 (fun hk28 => ?_)
            refine lv_iload_n hx hb dX11_rows_59 rfl (lv_at hl 2 rfl) ?_
            refine lv_iload hx hb dX11_rows_60 (lv_at hl 5 rfl) ?_
            refine x_clp (x_runS (As := [.int p0, .int x11]) (rest := [.ref (F a 1), .int x10]) S (c_X11_at l E K F tl 0 z1 z2 z3 z4 z5 z6 z7 z8 z9 z10 z11 z12 z13 z14 z15 z16 z17 z18 z19 z20 ar0 ar1 ar2 ar3 ar4 ar5 ar6 ar7 ar8 ar9 ar10 H p0 x11) ms_X11_at km_X11_156 rfl rfl ⟨Nat.le_of_ble_eq_true rfl, Nat.le_of_ble_eq_true rfl⟩ hK (fun _ => XPh.blind) (fun U hU hW => XPh.at hK hz hS hT hU hW) rfl hl.1 (Nat.le_of_ble_eq_true rfl) dX11_rows_62 ⟨Nat.le_of_ble_eq_true rfl, Nat.le_of_ble_eq_true rfl⟩) hS ?_
            rintro _ _ locs ⟨x30, rfl, t29⟩ hS
            have t29 : 0 ≤ p0.toInt ∧ p0.toInt ≤ 2 ∧ 0 ≤ x11.toInt ∧ x11.toInt ≤ 29 → x30.toInt = 4 * (30 * p0.toInt + x11.toInt) := t29
            refine tld_0 S hK hT hk28 (at_30 (f := ar0) rfl) (by decide) (z_X11_rows_3 p0.toInt x11.toInt x2.toInt x20.toInt x30.toInt N12 t1 (xbz b3) c4 hf13 hm14 c16 t19 t29 (xr p0) (xr x11) (xr x2) (xr x20) (xr x30)) dX11_rows_65 (fun x32 w33 o34 => ?_)
            refine lv_iload hx hb dX11_rows_66 (lv_at hl 5 rfl) ?_
            refine lv_ishl hx hb dX11_rows_68 (lv_topi (fun x36 _ => ?_))
            refine lv_ior hx hb dX11_rows_69 (lv_topi (fun x37 _ => ?_))
            refine lv_istore (lv' := [(4, .int x37), (3, .int x26), (0, .ref a), (1, .int p0), (2, .int p1), (5, .int x11)]) hx hb dX11_rows_70 hl (by decide) rfl (fun ls hl => ?_)
            refine xi_iinc (n := 1) (lv' := fun z9 => [(5, .int z9), (4, .int x37), (3, .int x26), (0, .ref a), (1, .int p0), (2, .int p1)]) (k := 5) hx hb (rfl : Int32.toInt x11 = x11.toInt) (by decide) dX11_rows_72 hl rfl (by decide) (fun _ => rfl) (fun x38 ls t39 hl => ?_)
            have hl : lv_has ls 6 [(5, .int x38), (4, .int x37), (3, .int x26), (0, .ref a), (1, .int p0), (2, .int p1)] := hl
            refine lv_goto (tgt := 32) hx hb dX11_rows_75 (by decide) ?_
            exact ih15 x26 x37 x38 _ _ _ (z_X11_rows_4 p0.toInt x11.toInt x2.toInt x20.toInt x30.toInt x38.toInt N12 t1 (xbz b3) c4 hf13 hm14 c16 t19 t29 t39 (xr p0) (xr x11) (xr x2) (xr x20) (xr x30) (xr x38)) (z_X11_rows_5 p0.toInt x11.toInt x2.toInt x20.toInt x30.toInt x38.toInt N12 t1 (xbz b3) c4 hf13 hm14 c16 t19 t29 t39 (xr p0) (xr x11) (xr x2) (xr x20) (xr x30) (xr x38)) hT.nil hS (lv_sub hl [3, 4, 5, 2, 1, 0] rfl)
      exact L32 4294967297 0 0 0 _ _ _ (by decide) (by decide) hT.nil hS (lv_sub hl [3, 4, 5, 2, 1, 0] rfl)
    · refine lv_iconst (v := (-1)) hx hb dX11_rows_22 (by decide) ?_
      exact x_ri hx hb hr hlk hQ (Nat.le_of_ble_eq_true rfl) (Nat.le_of_ble_eq_true rfl) hS dX11_rows_23 (0) ⟨_, rfl⟩ hT.nil
