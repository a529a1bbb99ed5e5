theorem z_X11_all_1 (a0 : Int) (h0 : (0 : Int) ≤ a0) (r0 : -2147483648 ≤ a0 ∧ a0 < 2147483648) : ¬ (2147483648 - a0 < ((0 : Nat) : Int)) := by omega
theorem z_X11_all_2 (a0 : Int) (a1 : Int) (a2 : Nat) (a3 : Nat) (h0 : 0 ≤ a0 ∧ a0 ≤ 12 ∧ a0 ≤ ((a3 : Nat) : Int)) (h1 : (0 : Int) ≤ a1) (h2 : 2147483648 - a1 < ((a2 + 1 : Nat) : Int)) (h3 : ¬ (a0 ≤ a1)) (r0 : -2147483648 ≤ a0 ∧ a0 < 2147483648) (r1 : -2147483648 ≤ a1 ∧ a1 < 2147483648) : 0 ≤ a1 ∧ a1 < ((12 : Nat) : Int) := by first | (clear h0; omega) | omega
theorem z_X11_all_3 (a0 : Int) (a1 : Int) (a2 : Nat) (a3 : Nat) (h0 : 0 ≤ a0 ∧ a0 ≤ 12 ∧ a0 ≤ ((a3 : Nat) : Int)) (h1 : (0 : Int) ≤ a1) (h2 : 2147483648 - a1 < ((a2 + 1 : Nat) : Int)) (h3 : ¬ (a0 ≤ a1)) (r0 : -2147483648 ≤ a0 ∧ a0 < 2147483648) (r1 : -2147483648 ≤ a1 ∧ a1 < 2147483648) : 0 ≤ a1 ∧ a1 < ((a3 : Nat) : Int) := by omega
theorem z_X11_all_4 (a0 : Int) (a1 : Int) (a2 : Int) (h0 : a0 = a2) (h1 : 0 ≤ a0 ∧ a0 ≤ 11 ∧ 0 ≤ a1) (r0 : -2147483648 ≤ a0 ∧ a0 < 2147483648) : 0 ≤ a0 ∧ a0 ≤ 11 := by omega
theorem z_X11_all_5 (a0 : Int) (a1 : Int) (a2 : Int) (a3 : Int) (a4 : Int) (a5 : Int) (h0 : a0 = a5) (h1 : 0 ≤ a0 ∧ a0 ≤ 11 ∧ 0 ≤ a1) (h2 : (-1 ≤ a1 ∧ a1 ≤ 5) ∧ (0 ≤ a2 ∧ a2 ≤ 2) ∧ (0 ≤ a3 ∧ a3 ≤ 2) ∧ (-1 ≤ a4 ∧ a4 ≤ 2) ∧ (a1 = 1 ∨ a1 = 3 ∨ a1 = 4 → 0 ≤ a4)) (r0 : -2147483648 ≤ a0 ∧ a0 < 2147483648) : 0 ≤ a0 ∧ a0 ≤ 11 := by omega
theorem z_X11_all_6 (a0 : Int) (a1 : Int) (a2 : Int) (a3 : Int) (a4 : Int) (a5 : Int) (h0 : a2 ≤ a1 ∧ a1 ≤ a4 + 1) (h1 : a3 = a2 ∧ a5 = a4) (h2 : a0 = a3 ∧ -99 ≤ a3 ∧ a3 ≤ 0 ∧ 29 ≤ a5 ∧ a5 ≤ 99 ∧ a5 - a3 ≤ 198) (r0 : -2147483648 ≤ a0 ∧ a0 < 2147483648) (r1 : -2147483648 ≤ a1 ∧ a1 < 2147483648) : ¬ (2147483648 - a1 < ((0 : Nat) : Int)) := by omega
theorem z_X11_all_7 (a0 : Int) (a1 : Int) (a2 : Nat) (a3 : Nat) (h0 : 0 ≤ a0 ∧ a0 ≤ 12 ∧ a0 ≤ ((a3 : Nat) : Int)) (h1 : (0 : Int) ≤ a1) (h2 : 2147483648 - a1 < ((a2 + 1 : Nat) : Int)) (h3 : ¬ (a0 ≤ a1)) (r0 : -2147483648 ≤ a0 ∧ a0 < 2147483648) (r1 : -2147483648 ≤ a1 ∧ a1 < 2147483648) : 0 ≤ a1 ∧ a1 < ((12 : Nat) : Int) := by first | (clear h0; omega) | omega
theorem z_X11_all_8 (a0 : Int) (a1 : Int) (a2 : Nat) (a3 : Nat) (h0 : 0 ≤ a0 ∧ a0 ≤ 12 ∧ a0 ≤ ((a3 : Nat) : Int)) (h1 : (0 : Int) ≤ a1) (h2 : 2147483648 - a1 < ((a2 + 1 : Nat) : Int)) (h3 : ¬ (a0 ≤ a1)) (r0 : -2147483648 ≤ a0 ∧ a0 < 2147483648) (r1 : -2147483648 ≤ a1 ∧ a1 < 2147483648) : 0 ≤ a1 ∧ a1 < ((a3 : Nat) : Int) := by omega
theorem z_X11_all_9 (a0 : Int) (a1 : Int) (a2 : Int) (a3 : Int) (a4 : Int) (a5 : Int) (a6 : Int) (a7 : Int) (h0 : a0 = a7) (h1 : 0 ≤ a0 ∧ a0 ≤ 11 ∧ 0 ≤ a2) (h2 : (-1 ≤ a2 ∧ a2 ≤ 5) ∧ (0 ≤ a3 ∧ a3 ≤ 2) ∧ (0 ≤ a4 ∧ a4 ≤ 2) ∧ (-1 ≤ a5 ∧ a5 ≤ 2) ∧ (a2 = 1 ∨ a2 = 3 ∨ a2 = 4 → 0 ≤ a5)) (h3 : a1 = a7) (h4 : 0 ≤ a1 ∧ a1 ≤ 11 ∧ 0 ≤ a6) (r0 : -2147483648 ≤ a0 ∧ a0 < 2147483648) (r1 : -2147483648 ≤ a1 ∧ a1 < 2147483648) : 0 ≤ a1 ∧ a1 ≤ 11 := by first | (clear h0 h1 h2; omega) | (clear h1 h2; omega) | (clear h2; omega) | omega
theorem z_X11_all_10 (a0 : Int) (a1 : Int) (a2 : Int) (a3 : Int) (a4 : Int) (a5 : Int) (a6 : Int) (a7 : Int) (a8 : Int) (a9 : Int) (a10 : Int) (h0 : a0 = a10) (h1 : 0 ≤ a0 ∧ a0 ≤ 11 ∧ 0 ≤ a2) (h2 : (-1 ≤ a2 ∧ a2 ≤ 5) ∧ (0 ≤ a3 ∧ a3 ≤ 2) ∧ (0 ≤ a4 ∧ a4 ≤ 2) ∧ (-1 ≤ a5 ∧ a5 ≤ 2) ∧ (a2 = 1 ∨ a2 = 3 ∨ a2 = 4 → 0 ≤ a5)) (h3 : a1 = a10) (h4 : 0 ≤ a1 ∧ a1 ≤ 11 ∧ 0 ≤ a6) (h5 : (-1 ≤ a6 ∧ a6 ≤ 5) ∧ (0 ≤ a7 ∧ a7 ≤ 2) ∧ (0 ≤ a8 ∧ a8 ≤ 2) ∧ (-1 ≤ a9 ∧ a9 ≤ 2) ∧ (a6 = 1 ∨ a6 = 3 ∨ a6 = 4 → 0 ≤ a9)) (r0 : -2147483648 ≤ a0 ∧ a0 < 2147483648) (r1 : -2147483648 ≤ a1 ∧ a1 < 2147483648) : 0 ≤ a1 ∧ a1 ≤ 11 := by first | (clear h0 h1 h2 h5; omega) | (clear h1 h2; omega) | (clear h2; omega) | omega
theorem z_X11_all_11 (a0 : Int) (a1 : Int) (a2 : Int) (a3 : Nat) (a4 : Nat) (h0 : 0 ≤ a0 ∧ a0 ≤ 12 ∧ a0 ≤ ((a4 : Nat) : Int)) (h1 : (0 : Int) ≤ a1) (h2 : 2147483648 - a1 < ((a3 + 1 : Nat) : Int)) (h3 : ¬ (a0 ≤ a1)) (h4 : a2 = a1 + 1 ∨ a1 + 1 < -2147483648 ∨ 2147483648 ≤ a1 + 1) (r0 : -2147483648 ≤ a0 ∧ a0 < 2147483648) (r1 : -2147483648 ≤ a1 ∧ a1 < 2147483648) (r2 : -2147483648 ≤ a2 ∧ a2 < 2147483648) : (0 : Int) ≤ a2 := by first | (clear h0 h1 h2 h3; omega) | (clear h0; omega) | omega
theorem z_X11_all_12 (a0 : Int) (a1 : Int) (a2 : Int) (a3 : Nat) (a4 : Nat) (h0 : 0 ≤ a0 ∧ a0 ≤ 12 ∧ a0 ≤ ((a4 : Nat) : Int)) (h1 : (0 : Int) ≤ a1) (h2 : 2147483648 - a1 < ((a3 + 1 : Nat) : Int)) (h3 : ¬ (a0 ≤ a1)) (h4 : a2 = a1 + 1 ∨ a1 + 1 < -2147483648 ∨ 2147483648 ≤ a1 + 1) (r0 : -2147483648 ≤ a0 ∧ a0 < 2147483648) (r1 : -2147483648 ≤ a1 ∧ a1 < 2147483648) (r2 : -2147483648 ≤ a2 ∧ a2 < 2147483648) : 2147483648 - a2 < ((a3 : Nat) : Int) := by first | (clear h0 h1 h3; omega) | (clear h0; omega) | omega
theorem z_X11_all_13 (a0 : Int) (a1 : Int) (a2 : Nat) (a3 : Nat) (h0 : 0 ≤ a0 ∧ a0 ≤ 12 ∧ a0 ≤ ((a3 : Nat) : Int)) (h1 : (0 : Int) ≤ a1) (h2 : 2147483648 - a1 < ((a2 + 1 : Nat) : Int)) (h3 : ¬ (a0 ≤ a1)) (r0 : -2147483648 ≤ a0 ∧ a0 < 2147483648) (r1 : -2147483648 ≤ a1 ∧ a1 < 2147483648) : 0 ≤ a1 ∧ a1 < ((12 : Nat) : Int) := by first | (clear h0; omega) | omega
theorem z_X11_all_14 (a0 : Int) (a1 : Int) (a2 : Nat) (a3 : Nat) (h0 : 0 ≤ a0 ∧ a0 ≤ 12 ∧ a0 ≤ ((a3 : Nat) : Int)) (h1 : (0 : Int) ≤ a1) (h2 : 2147483648 - a1 < ((a2 + 1 : Nat) : Int)) (h3 : ¬ (a0 ≤ a1)) (r0 : -2147483648 ≤ a0 ∧ a0 < 2147483648) (r1 : -2147483648 ≤ a1 ∧ a1 < 2147483648) : 0 ≤ a1 ∧ a1 < ((a3 : Nat) : Int) := by omega
theorem z_X11_all_15 (a0 : Int) (a1 : Int) (a2 : Int) (a3 : Int) (a4 : Int) (a5 : Int) (a6 : Int) (a7 : Int) (a8 : Int) (a9 : Int) (a10 : Int) (a11 : Int) (a12 : Int) (h0 : a0 = a12) (h1 : 0 ≤ a0 ∧ a0 ≤ 11 ∧ 0 ≤ a3) (h2 : (-1 ≤ a3 ∧ a3 ≤ 5) ∧ (0 ≤ a4 ∧ a4 ≤ 2) ∧ (0 ≤ a5 ∧ a5 ≤ 2) ∧ (-1 ≤ a6 ∧ a6 ≤ 2) ∧ (a3 = 1 ∨ a3 = 3 ∨ a3 = 4 → 0 ≤ a6)) (h3 : a1 = a12) (h4 : 0 ≤ a1 ∧ a1 ≤ 11 ∧ 0 ≤ a7) (h5 : (-1 ≤ a7 ∧ a7 ≤ 5) ∧ (0 ≤ a8 ∧ a8 ≤ 2) ∧ (0 ≤ a9 ∧ a9 ≤ 2) ∧ (-1 ≤ a10 ∧ a10 ≤ 2) ∧ (a7 = 1 ∨ a7 = 3 ∨ a7 = 4 → 0 ≤ a10)) (h6 : a2 = a12) (h7 : 0 ≤ a2 ∧ a2 ≤ 11 ∧ 0 ≤ a11) (r0 : -2147483648 ≤ a0 ∧ a0 < 2147483648) (r1 : -2147483648 ≤ a1 ∧ a1 < 2147483648) (r2 : -2147483648 ≤ a2 ∧ a2 < 2147483648) : 0 ≤ a2 ∧ a2 ≤ 11 := by first | (clear h0 h1 h2 h3 h4 h5; omega) | (clear h1 h2 h4 h5; omega) | (clear h2 h5; omega) | omega
theorem z_X11_all_16 (a0 : Int) (a1 : Int) (a2 : Int) (a3 : Int) (a4 : Int) (a5 : Int) (a6 : Int) (a7 : Int) (a8 : Int) (a9 : Int) (a10 : Int) (a11 : Int) (a12 : Int) (a13 : Int) (a14 : Int) (a15 : Int) (h0 : a0 = a15) (h1 : 0 ≤ a0 ∧ a0 ≤ 11 ∧ 0 ≤ a3) (h2 : (-1 ≤ a3 ∧ a3 ≤ 5) ∧ (0 ≤ a4 ∧ a4 ≤ 2) ∧ (0 ≤ a5 ∧ a5 ≤ 2) ∧ (-1 ≤ a6 ∧ a6 ≤ 2) ∧ (a3 = 1 ∨ a3 = 3 ∨ a3 = 4 → 0 ≤ a6)) (h3 : a1 = a15) (h4 : 0 ≤ a1 ∧ a1 ≤ 11 ∧ 0 ≤ a7) (h5 : (-1 ≤ a7 ∧ a7 ≤ 5) ∧ (0 ≤ a8 ∧ a8 ≤ 2) ∧ (0 ≤ a9 ∧ a9 ≤ 2) ∧ (-1 ≤ a10 ∧ a10 ≤ 2) ∧ (a7 = 1 ∨ a7 = 3 ∨ a7 = 4 → 0 ≤ a10)) (h6 : a2 = a15) (h7 : 0 ≤ a2 ∧ a2 ≤ 11 ∧ 0 ≤ a11) (h8 : (-1 ≤ a11 ∧ a11 ≤ 5) ∧ (0 ≤ a12 ∧ a12 ≤ 2) ∧ (0 ≤ a13 ∧ a13 ≤ 2) ∧ (-1 ≤ a14 ∧ a14 ≤ 2) ∧ (a11 = 1 ∨ a11 = 3 ∨ a11 = 4 → 0 ≤ a14)) (r0 : -2147483648 ≤ a0 ∧ a0 < 2147483648) (r1 : -2147483648 ≤ a1 ∧ a1 < 2147483648) (r2 : -2147483648 ≤ a2 ∧ a2 < 2147483648) : 0 ≤ a2 ∧ a2 ≤ 11 := by first | (clear h0 h1 h2 h3 h4 h5 h8; omega) | (clear h1 h2 h4 h5; omega) | (clear h2 h5; omega) | omega
theorem z_X11_all_17 (a0 : Int) (a1 : Int) (a2 : Int) (a3 : Int) (a4 : Int) (a5 : Int) (a6 : Int) (a7 : Int) (a8 : Int) (a9 : Int) (a10 : Int) (a11 : Int) (a12 : Int) (a13 : Int) (a14 : Int) (a15 : Int) (h0 : a0 = a15) (h1 : 0 ≤ a0 ∧ a0 ≤ 11 ∧ 0 ≤ a3) (h2 : (-1 ≤ a3 ∧ a3 ≤ 5) ∧ (0 ≤ a4 ∧ a4 ≤ 2) ∧ (0 ≤ a5 ∧ a5 ≤ 2) ∧ (-1 ≤ a6 ∧ a6 ≤ 2) ∧ (a3 = 1 ∨ a3 = 3 ∨ a3 = 4 → 0 ≤ a6)) (h3 : a1 = a15) (h4 : 0 ≤ a1 ∧ a1 ≤ 11 ∧ 0 ≤ a7) (h5 : (-1 ≤ a7 ∧ a7 ≤ 5) ∧ (0 ≤ a8 ∧ a8 ≤ 2) ∧ (0 ≤ a9 ∧ a9 ≤ 2) ∧ (-1 ≤ a10 ∧ a10 ≤ 2) ∧ (a7 = 1 ∨ a7 = 3 ∨ a7 = 4 → 0 ≤ a10)) (h6 : a2 = a15) (h7 : 0 ≤ a2 ∧ a2 ≤ 11 ∧ 0 ≤ a11) (h8 : (-1 ≤ a11 ∧ a11 ≤ 5) ∧ (0 ≤ a12 ∧ a12 ≤ 2) ∧ (0 ≤ a13 ∧ a13 ≤ 2) ∧ (-1 ≤ a14 ∧ a14 ≤ 2) ∧ (a11 = 1 ∨ a11 = 3 ∨ a11 = 4 → 0 ≤ a14)) (r0 : -2147483648 ≤ a0 ∧ a0 < 2147483648) (r1 : -2147483648 ≤ a1 ∧ a1 < 2147483648) (r2 : -2147483648 ≤ a2 ∧ a2 < 2147483648) : 0 ≤ a11 := by first | (clear h0 h1 h2 h3 h4 h5 h6; omega) | (clear h0 h1 h2 h3 h4 h5; omega) | (clear h1 h2 h4 h5; omega) | (clear h2 h5; omega) | omega
theorem z_X11_all_18 (a0 : Int) (a1 : Int) (a2 : Int) (a3 : Nat) (a4 : Int) (a5 : Int) (a6 : Int) (a7 : Int) (a8 : Int) (a9 : Int) (a10 : Int) (a11 : Int) (h0 : a5 = a4 ∧ a9 = a8) (h1 : a0 = a5 ∧ -99 ≤ a5 ∧ a5 ≤ 0 ∧ 29 ≤ a9 ∧ a9 ≤ 99 ∧ a9 - a5 ≤ 198) (h2 : a4 ≤ a1 ∧ a1 ≤ a8 + 1) (h3 : 2147483648 - a1 < ((a3 + 1 : Nat) : Int)) (h4 : a6 = a4 ∧ a10 = a8) (h5 : a2 = a10 ∧ -99 ≤ a6 ∧ a6 ≤ 0 ∧ 29 ≤ a10 ∧ a10 ≤ 99 ∧ a10 - a6 ≤ 198) (h6 : ¬ (a2 < a1)) (h7 : a7 = a4 ∧ a11 = a8) (r0 : -2147483648 ≤ a0 ∧ a0 < 2147483648) (r1 : -2147483648 ≤ a1 ∧ a1 < 2147483648) (r2 : -2147483648 ≤ a2 ∧ a2 < 2147483648) : a7 ≤ a1 ∧ a1 ≤ a11 := by first | (clear h0 h1 h4 h5; omega) | (clear h1; omega) | omega
theorem z_X11_all_19 (a0 : Int) (a1 : Int) (a2 : Int) (a3 : Int) (a4 : Nat) (a5 : Int) (a6 : Int) (a7 : Int) (a8 : Int) (a9 : Int) (a10 : Int) (a11 : Int) (a12 : Int) (h0 : a6 = a5 ∧ a10 = a9) (h1 : a0 = a6 ∧ -99 ≤ a6 ∧ a6 ≤ 0 ∧ 29 ≤ a10 ∧ a10 ≤ 99 ∧ a10 - a6 ≤ 198) (h2 : a5 ≤ a1 ∧ a1 ≤ a9 + 1) (h3 : 2147483648 - a1 < ((a4 + 1 : Nat) : Int)) (h4 : a7 = a5 ∧ a11 = a9) (h5 : a2 = a11 ∧ -99 ≤ a7 ∧ a7 ≤ 0 ∧ 29 ≤ a11 ∧ a11 ≤ 99 ∧ a11 - a7 ≤ 198) (h6 : ¬ (a2 < a1)) (h7 : a8 = a5 ∧ a12 = a9) (h8 : a3 = a1 + 1 ∨ a1 + 1 < -2147483648 ∨ 2147483648 ≤ a1 + 1) (r0 : -2147483648 ≤ a0 ∧ a0 < 2147483648) (r1 : -2147483648 ≤ a1 ∧ a1 < 2147483648) (r2 : -2147483648 ≤ a2 ∧ a2 < 2147483648) (r3 : -2147483648 ≤ a3 ∧ a3 < 2147483648) : a5 ≤ a3 ∧ a3 ≤ a9 + 1 := by first | (clear h1 h3 h5 h6; omega) | omega
theorem z_X11_all_20 (a0 : Int) (a1 : Int) (a2 : Int) (a3 : Int) (a4 : Nat) (a5 : Int) (a6 : Int) (a7 : Int) (a8 : Int) (a9 : Int) (a10 : Int) (a11 : Int) (a12 : Int) (h0 : a6 = a5 ∧ a10 = a9) (h1 : a0 = a6 ∧ -99 ≤ a6 ∧ a6 ≤ 0 ∧ 29 ≤ a10 ∧ a10 ≤ 99 ∧ a10 - a6 ≤ 198) (h2 : a5 ≤ a1 ∧ a1 ≤ a9 + 1) (h3 : 2147483648 - a1 < ((a4 + 1 : Nat) : Int)) (h4 : a7 = a5 ∧ a11 = a9) (h5 : a2 = a11 ∧ -99 ≤ a7 ∧ a7 ≤ 0 ∧ 29 ≤ a11 ∧ a11 ≤ 99 ∧ a11 - a7 ≤ 198) (h6 : ¬ (a2 < a1)) (h7 : a8 = a5 ∧ a12 = a9) (h8 : a3 = a1 + 1 ∨ a1 + 1 < -2147483648 ∨ 2147483648 ≤ a1 + 1) (r0 : -2147483648 ≤ a0 ∧ a0 < 2147483648) (r1 : -2147483648 ≤ a1 ∧ a1 < 2147483648) (r2 : -2147483648 ≤ a2 ∧ a2 < 2147483648) (r3 : -2147483648 ≤ a3 ∧ a3 < 2147483648) : 2147483648 - a3 < ((a4 : Nat) : Int) := by first | (clear h0 h1 h2 h4 h5 h6 h7; omega) | (clear h0 h1 h4 h5 h7; omega) | (clear h1; omega) | omega
theorem z_X11_all_21 (a0 : Int) (a1 : Int) (a2 : Nat) (a3 : Nat) (h0 : 0 ≤ a0 ∧ a0 ≤ 12 ∧ a0 ≤ ((a3 : Nat) : Int)) (h1 : (0 : Int) ≤ a1) (h2 : 2147483648 - a1 < ((a2 + 1 : Nat) : Int)) (h3 : ¬ (a0 ≤ a1)) (r0 : -2147483648 ≤ a0 ∧ a0 < 2147483648) (r1 : -2147483648 ≤ a1 ∧ a1 < 2147483648) : 0 ≤ a1 ∧ a1 < ((12 : Nat) : Int) := by first | (clear h0; omega) | omega
theorem z_X11_all_22 (a0 : Int) (a1 : Int) (a2 : Nat) (a3 : Nat) (h0 : 0 ≤ a0 ∧ a0 ≤ 12 ∧ a0 ≤ ((a3 : Nat) : Int)) (h1 : (0 : Int) ≤ a1) (h2 : 2147483648 - a1 < ((a2 + 1 : Nat) : Int)) (h3 : ¬ (a0 ≤ a1)) (r0 : -2147483648 ≤ a0 ∧ a0 < 2147483648) (r1 : -2147483648 ≤ a1 ∧ a1 < 2147483648) : 0 ≤ a1 ∧ a1 < ((a3 : Nat) : Int) := by omega
theorem z_X11_all_23 (a0 : Int) (a1 : Int) (a2 : Int) (a3 : Int) (a4 : Int) (a5 : Int) (a6 : Int) (a7 : Int) (a8 : Int) (a9 : Int) (a10 : Int) (a11 : Int) (a12 : Int) (a13 : Int) (a14 : Int) (a15 : Int) (a16 : Int) (a17 : Int) (h0 : a0 = a17) (h1 : 0 ≤ a0 ∧ a0 ≤ 11 ∧ 0 ≤ a4) (h2 : (-1 ≤ a4 ∧ a4 ≤ 5) ∧ (0 ≤ a5 ∧ a5 ≤ 2) ∧ (0 ≤ a6 ∧ a6 ≤ 2) ∧ (-1 ≤ a7 ∧ a7 ≤ 2) ∧ (a4 = 1 ∨ a4 = 3 ∨ a4 = 4 → 0 ≤ a7)) (h3 : a1 = a17) (h4 : 0 ≤ a1 ∧ a1 ≤ 11 ∧ 0 ≤ a8) (h5 : (-1 ≤ a8 ∧ a8 ≤ 5) ∧ (0 ≤ a9 ∧ a9 ≤ 2) ∧ (0 ≤ a10 ∧ a10 ≤ 2) ∧ (-1 ≤ a11 ∧ a11 ≤ 2) ∧ (a8 = 1 ∨ a8 = 3 ∨ a8 = 4 → 0 ≤ a11)) (h6 : a2 = a17) (h7 : 0 ≤ a2 ∧ a2 ≤ 11 ∧ 0 ≤ a12) (h8 : (-1 ≤ a12 ∧ a12 ≤ 5) ∧ (0 ≤ a13 ∧ a13 ≤ 2) ∧ (0 ≤ a14 ∧ a14 ≤ 2) ∧ (-1 ≤ a15 ∧ a15 ≤ 2) ∧ (a12 = 1 ∨ a12 = 3 ∨ a12 = 4 → 0 ≤ a15)) (h9 : a3 = a17) (h10 : 0 ≤ a3 ∧ a3 ≤ 11 ∧ 0 ≤ a16) (r0 : -2147483648 ≤ a0 ∧ a0 < 2147483648) (r1 : -2147483648 ≤ a1 ∧ a1 < 2147483648) (r2 : -2147483648 ≤ a2 ∧ a2 < 2147483648) (r3 : -2147483648 ≤ a3 ∧ a3 < 2147483648) : 0 ≤ a3 ∧ a3 ≤ 11 := by first | (clear h0 h1 h2 h3 h4 h5 h6 h7 h8; omega) | (clear h1 h2 h4 h5 h7 h8; omega) | (clear h2 h5 h8; omega) | omega
theorem z_X11_all_24 (a0 : Int) (a1 : Int) (a2 : Int) (a3 : Int) (a4 : Int) (h0 : a2 = a1 ∧ a4 = a3) (h1 : a0 = a2 ∧ -99 ≤ a2 ∧ a2 ≤ 0 ∧ 29 ≤ a4 ∧ a4 ≤ 99 ∧ a4 - a2 ≤ 198) (r0 : -2147483648 ≤ a0 ∧ a0 < 2147483648) : a1 ≤ a0 ∧ a0 ≤ a3 + 1 := by omega
theorem z_X11_all_25 (a0 : Int) (a1 : Int) (a2 : Int) (a3 : Int) (a4 : Int) (h0 : a2 = a1 ∧ a4 = a3) (h1 : a0 = a2 ∧ -99 ≤ a2 ∧ a2 ≤ 0 ∧ 29 ≤ a4 ∧ a4 ≤ 99 ∧ a4 - a2 ≤ 198) (r0 : -2147483648 ≤ a0 ∧ a0 < 2147483648) : 2147483648 - a0 < ((4294967297 : Nat) : Int) := by omega
abbrev rm_X11_all : Room := { frames := 4, cells := 0, slots := 0, locals := 104 }
set_option maxHeartbeats 4000000 in
set_option maxRecDepth 100000 in
theorem c_X11_all (l : Launch) (E : XE) (K : Nat → Nat) (F : Nat → Nat → Nat) (tl z0 z1 z2 z3 z4 z5 z6 z7 z8 z9 z10 z11 z12 z13 z14 z15 z16 z17 z18 z19 z20 : Int32) (ar0 ar1 ar2 ar3 ar4 ar5 ar6 ar7 ar8 ar9 ar10 : Nat → Int32) (a : Nat) (p0 : Int32) (ha : K a = 13) (hR : RV ar1) : Met l yX11_all (xw yX11_all cX11_all 7 (some .int)) rm_X11_all (va_Pc [.ref a, .int p0] (XP E K F (tl, [z0, z1, z2, z3, z4, z5, z6, z7, z8, z9, z10, z11, z12, z13, z14, z15, z16, z17, z18, z19, z20], [ar0, ar1, ar2, ar3, ar4, ar5, ar6, ar7, ar8, ar9, ar10]))) (XQ E (fun v (u : Int32 × Int32 × (Nat → Int32)) => ∃ r : Int32, v = .int r) (fun u H => TW E K F (tl, [u.1, z1, z2, u.2.1, z4, z5, z6, z7, z8, z9, z10, z11, z12, z13, z14, z15, z16, z17, z18, z19, z20], [ar0, ar1, u.2.2, ar3, ar4, ar5, ar6, ar7, ar8, ar9, ar10]) [] H)) 0 0 (xA E) := by
  refine x_enter (by decide) (Nat.le_of_ble_eq_true rfl) ?_
  intro p e s m args below meth c Q S hr hlk hnm hQ hP ls hl
  obtain ⟨hz, hK, hT⟩ := hP
  obtain ⟨hx, hb, -, -, -⟩ := id S
  obtain ⟨H, hT, hS, hgo⟩ : ∃ H : Heap, TW E K F (tl, [z0, z1, z2, z3, z4, z5, z6, z7, z8, z9, z10, z11, z12, z13, z14, z15, z16, z17, z18, z19, z20], [ar0, ar1, ar2, ar3, ar4, ar5, ar6, ar7, ar8, ar9, ar10]) [] H ∧ va_S (xA E) s.heap H [] ∧ H = s.heap := ⟨_, hT, va_S.rf, rfl⟩
  rw [← hgo]
  have hl : lv_has ls 7 [(0, .ref a), (1, .int p0)] := hl
  refine lv_aload_n hx hb dX11_all_0 rfl (lv_at hl 0 rfl) ?_
  refine lv_iconst (v := 0) hx hb dX11_all_1 (by decide) ?_
  refine pX11_0 (kq := []) (v := 0) S hK hT hS ha kf_X11_134 (Nat.le_of_ble_eq_true rfl) dX11_all_2 (fun _ h => by cases h) (fun H locs hT hS => ?_)
  have hT : TW E K F (tl, [0, z1, z2, z3, z4, z5, z6, z7, z8, z9, z10, z11, z12, z13, z14, z15, z16, z17, z18, z19, z20], [ar0, ar1, ar2, ar3, ar4, ar5, ar6, ar7, ar8, ar9, ar10]) [] H := hT
  refine lv_iload_n hx hb dX11_all_5 rfl (lv_at hl 1 rfl) ?_
  refine lv_i2l (v := p0.toInt64) hx hb dX11_all_6 rfl ?_
  refine lv_lconst (v := (0 : Int64)) hx hb dX11_all_7 (by decide) ?_
  refine lv_ldc2 (v := 2) hx hb S.2.2.2.1 (S.2.2.2.2 _ (List.mem_cons_of_mem _ kc_X11_137)) dX11_all_8 ?_
  refine x_clp (x_runS (As := [.long p0.toInt64, .long (0 : Int64), .long (2 : Int64)]) (rest := []) S (c_X11_in l E K F tl 0 z1 z2 z3 z4 z5 z6 z7 z8 z9 z10 z11 z12 z13 z14 z15 z16 z17 z18 z19 z20 ar0 ar1 ar2 ar3 ar4 ar5 ar6 ar7 ar8 ar9 ar10 H p0.toInt64 (0 : Int64) (2 : Int64) p0.toInt (0 : Int) (2 : Int) (xl_i2l (rfl : Int32.toInt p0 = p0.toInt)) (by decide) (by decide)) ms_X11_in km_X11_139 rfl rfl ⟨Nat.le_of_ble_eq_true rfl, Nat.le_of_ble_eq_true rfl⟩ hK (fun _ => XPh.blind) (fun U hU hW => XPh.at hK hz hS hT hU hW) rfl hl.1 (Nat.le_of_ble_eq_true rfl) dX11_all_11 ⟨Nat.le_of_ble_eq_true rfl, Nat.le_of_ble_eq_true rfl⟩) hS ?_
  rintro _ _ locs ⟨x1, rfl, b2, t3⟩ hS
  have t3 : (x1.toInt = 1 ∧ (0 : Int) ≤ p0.toInt ∧ p0.toInt ≤ (2 : Int)) ∨ (x1.toInt = 0 ∧ (p0.toInt < (0 : Int) ∨ (2 : Int) < p0.toInt)) := t3
  refine xi_zne (tgt := 20) hx hb (rfl : Int32.toInt x1 = x1.toInt) dX11_all_14 (by decide) (fun c4 => ?_) (fun c4 => ?_)
  · refine lv_aload_n hx hb dX11_all_20 rfl (lv_at hl 0 rfl) ?_
    refine x_cv0 (x_runV (b := a) (As := []) (rest := []) S (c_X11_layOrder l E K F tl 0 z1 z2 z3 z4 z5 z6 z7 z8 z9 z10 z11 z12 z13 z14 z15 z16 z17 z18 z19 z20 ar0 ar1 ar2 ar3 ar4 ar5 ar6 ar7 ar8 ar9 ar10 a ha hR) mv_X11_layOrder km_X11_200 rfl rfl ⟨Nat.le_of_ble_eq_true rfl, Nat.le_of_ble_eq_true rfl⟩ (rc_13 hK hT ha) hK (fun _ => XP.blind) (fun U hU hW => XP.at hK hz hS hT hU hW) rfl hl.1 (Nat.le_of_ble_eq_true rfl) dX11_all_21 ⟨Nat.le_of_ble_eq_true rfl, Nat.le_of_ble_eq_true rfl⟩) hS ?_
    rintro ⟨u5, f6⟩ H locs t7 hT hS
    have hT : TW E K F (tl, [0, z1, z2, u5, z4, z5, z6, z7, z8, z9, z10, z11, z12, z13, z14, z15, z16, z17, z18, z19, z20], [ar0, ar1, f6, ar3, ar4, ar5, ar6, ar7, ar8, ar9, ar10]) [] H := hT
    have t7 : 0 ≤ u5.toInt ∧ u5.toInt ≤ 12 ∧ u5.toInt ≤ (((oV ar1 f6) : Nat) : Int) := t7
    refine lv_iconst (v := 0) hx hb dX11_all_24 (by decide) ?_
    refine lv_istore_n (lv' := [(2, .int 0), (0, .ref a), (1, .int p0)]) hx hb dX11_all_25 rfl hl (by decide) rfl (fun ls hl => ?_)
    refine lv_ldc (v := (-2147483648)) hx hb S.2.2.2.1 (S.2.2.2.2 _ (List.mem_cons_of_mem _ kc_X11_57)) dX11_all_26 ?_
    refine lv_istore_n (lv' := [(3, .int (-2147483648)), (2, .int 0), (0, .ref a), (1, .int p0)]) hx hb dX11_all_28 rfl hl (by decide) rfl (fun ls hl => ?_)
    refine lv_ldc (v := (-2147483648)) hx hb S.2.2.2.1 (S.2.2.2.2 _ (List.mem_cons_of_mem _ kc_X11_57)) dX11_all_29 ?_
    refine lv_istore (lv' := [(4, .int (-2147483648)), (3, .int (-2147483648)), (2, .int 0), (0, .ref a), (1, .int p0)]) hx hb dX11_all_31 hl (by decide) rfl (fun ls hl => ?_)
    refine lv_iconst (v := 0) hx hb dX11_all_33 (by decide) ?_
    refine lv_istore (lv' := [(5, .int 0), (4, .int (-2147483648)), (3, .int (-2147483648)), (2, .int 0), (0, .ref a), (1, .int p0)]) hx hb dX11_all_34 hl (by decide) rfl (fun ls hl => ?_)
    have L36 : ∀ (N14 : Nat) (x10 : Int32) (x11 : Int32) (x12 : Int32) (x13 : Int32) (H : Heap) (locs : List Loc) (ls : Array Slot), (0 : Int) ≤ x13.toInt → 2147483648 - x13.toInt < ((N14 : Nat) : Int) → TW E K F (tl, [0, z1, z2, u5, z4, z5, z6, z7, z8, z9, z10, z11, z12, z13, z14, z15, z16, z17, z18, z19, z20], [ar0, ar1, f6, ar3, ar4, ar5, ar6, ar7, ar8, ar9, ar10]) [] H → va_S (xA E) s.heap H locs → lv_has ls 7 [(0, .ref a), (1, .int p0), (2, .int x10), (3, .int x11), (4, .int x12), (5, .int x13)] → W p l e rm_X11_all s m args below meth c H locs 0 0 Q (F0 m 36 ls []) := by
      intro N14
      induction N14 with
      | zero =>
        intro x10 x11 x12 x13 H locs ls hf15 hm16
        exact absurd hm16 (z_X11_all_1 x13.toInt hf15 (xr x13))
      | succ N14 ih17 =>
        intro x10 x11 x12 x13 H locs ls hf15 hm16 hT hS hl
        refine lv_iload hx hb dX11_all_36 (lv_at hl 5 rfl) ?_
        refine lv_aload_n hx hb dX11_all_38 rfl (lv_at hl 0 rfl) ?_
        refine gX11_16 S hK hT ha kf_X11_197 dX11_all_39 (v := u5) rfl ?_
        refine xi_cge (tgt := 139) hx hb (rfl : Int32.toInt x13 = x13.toInt) (rfl : Int32.toInt u5 = u5.toInt) dX11_all_42 (by decide) (fun c18 => ?_) (fun c18 => ?_)
        · refine lv_iload_n hx hb dX11_all_139 rfl (lv_at hl 1 rfl) ?_
          refine xi_zne (tgt := 147) hx hb (rfl : Int32.toInt p0 = p0.toInt) dX11_all_140 (by decide) (fun c19 => ?_) (fun c19 => ?_)
          · refine lv_iload_n hx hb dX11_all_147 rfl (lv_at hl 2 rfl) ?_
            refine xi_zne (tgt := 155) hx hb (rfl : Int32.toInt x10 = x10.toInt) dX11_all_148 (by decide) (fun c20 => ?_) (fun c20 => ?_)
            · refine lv_iload_n hx hb dX11_all_155 rfl (lv_at hl 1 rfl) ?_
              refine lv_iconst (v := 1) hx hb dX11_all_156 (by decide) ?_
              refine xi_cne (tgt := 164) hx hb (rfl : Int32.toInt p0 = p0.toInt) ((by decide) : Int32.toInt 1 = (1 : Int)) dX11_all_157 (by decide) (fun c21 => ?_) (fun c21 => ?_)
              · refine lv_iload hx hb dX11_all_164 (lv_at hl 4 rfl) ?_
                exact x_ri hx hb hr hlk hQ (Nat.le_of_ble_eq_true rfl) (Nat.le_of_ble_eq_true rfl) hS dX11_all_166 (0, u5, f6) ⟨_, rfl⟩ hT.nil
              · refine lv_iload_n hx hb dX11_all_160 rfl (lv_at hl 3 rfl) ?_
                refine lv_goto (tgt := 166) hx hb dX11_all_161 (by decide) ?_
                exact x_ri hx hb hr hlk hQ (Nat.le_of_ble_eq_true rfl) (Nat.le_of_ble_eq_true rfl) hS dX11_all_166 (0, u5, f6) ⟨_, rfl⟩ hT.nil
            · refine lv_iconst (v := (-1)) hx hb dX11_all_151 (by decide) ?_
              refine lv_goto (tgt := 166) hx hb dX11_all_152 (by decide) ?_
              exact x_ri hx hb hr hlk hQ (Nat.le_of_ble_eq_true rfl) (Nat.le_of_ble_eq_true rfl) hS dX11_all_166 (0, u5, f6) ⟨_, rfl⟩ hT.nil
          · refine lv_iload_n hx hb dX11_all_143 rfl (lv_at hl 2 rfl) ?_
            refine lv_goto (tgt := 166) hx hb dX11_all_144 (by decide) ?_
            exact x_ri hx hb hr hlk hQ (Nat.le_of_ble_eq_true rfl) (Nat.le_of_ble_eq_true rfl) hS dX11_all_166 (0, u5, f6) ⟨_, rfl⟩ hT.nil
        · refine lv_aload_n hx hb dX11_all_45 rfl (lv_at hl 0 rfl) ?_
          refine lv_aload_n hx hb dX11_all_46 rfl (lv_at hl 0 rfl) ?_
          refine gX11_15 S hK hT ha kf_X11_48 dX11_all_47 (fun hk22 => ?_)
          refine lv_iload hx hb dX11_all_50 (lv_at hl 5 rfl) ?_
          refine tld_0 S hK hT hk22 (at_42 (f := f6) rfl) (by decide) (z_X11_all_2 u5.toInt x13.toInt N14 (oV ar1 f6) t7 hf15 hm16 c18 (xr u5) (xr x13)) dX11_all_52 (fun x23 w24 o25 => ?_)
          have v27 : 0 ≤ x23.toInt ∧ x23.toInt ≤ 11 ∧ 0 ≤ (aI ar1 (10 * x23.toInt + (0 : Int))) := oV_get w24 (z_X11_all_3 u5.toInt x13.toInt N14 (oV ar1 f6) t7 hf15 hm16 c18 (xr u5) (xr x13))
          have v28 : (-1 ≤ (aI ar1 (10 * x23.toInt + (0 : Int))) ∧ (aI ar1 (10 * x23.toInt + (0 : Int))) ≤ 5) ∧ (0 ≤ (aI ar1 (10 * x23.toInt + (1 : Int))) ∧ (aI ar1 (10 * x23.toInt + (1 : Int))) ≤ 2) ∧ (0 ≤ (aI ar1 (10 * x23.toInt + (2 : Int))) ∧ (aI ar1 (10 * x23.toInt + (2 : Int))) ≤ 2) ∧ (-1 ≤ (aI ar1 (10 * x23.toInt + (3 : Int))) ∧ (aI ar1 (10 * x23.toInt + (3 : Int))) ≤ 2) ∧ ((aI ar1 (10 * x23.toInt + (0 : Int))) = 1 ∨ (aI ar1 (10 * x23.toInt + (0 : Int))) = 3 ∨ (aI ar1 (10 * x23.toInt + (0 : Int))) = 4 → 0 ≤ (aI ar1 (10 * x23.toInt + (3 : Int)))) := RV.row hR (z_X11_all_4 x23.toInt (aI ar1 (10 * x23.toInt + (0 : Int))) (aI f6 x13.toInt) w24 v27 (xr x23))
          have v29 : (aF ar1 x23.toInt) = (aF ar1 (aI f6 x13.toInt)) ∧ (aL ar1 x23.toInt) = (aL ar1 (aI f6 x13.toInt)) := by rw [w24]; exact ⟨rfl, rfl⟩
          refine x_clp (x_runV (b := a) (As := [.int x23]) (rest := []) S (c_X11_firstSubject l E K F tl 0 z1 z2 u5 z4 z5 z6 z7 z8 z9 z10 z11 z12 z13 z14 z15 z16 z17 z18 z19 z20 ar0 ar1 f6 ar3 ar4 ar5 ar6 ar7 ar8 ar9 ar10 H a x23 ha hR (z_X11_all_5 x23.toInt (aI ar1 (10 * x23.toInt + (0 : Int))) (aI ar1 (10 * x23.toInt + (1 : Int))) (aI ar1 (10 * x23.toInt + (2 : Int))) (aI ar1 (10 * x23.toInt + (3 : Int))) (aI f6 x13.toInt) w24 v27 v28 (xr x23))) mv_X11_firstSubject km_X11_179 rfl rfl ⟨Nat.le_of_ble_eq_true rfl, Nat.le_of_ble_eq_true rfl⟩ (rc_13 hK hT ha) hK (fun _ => XPh.blind) (fun U hU hW => XPh.at hK hz hS hT hU hW) rfl hl.1 (Nat.le_of_ble_eq_true rfl) dX11_all_53 ⟨Nat.le_of_ble_eq_true rfl, Nat.le_of_ble_eq_true rfl⟩) hS ?_
          rintro _ _ locs ⟨x31, rfl, t30⟩ hS
          have t30 : x31.toInt = (aF ar1 x23.toInt) ∧ -99 ≤ (aF ar1 x23.toInt) ∧ (aF ar1 x23.toInt) ≤ 0 ∧ 29 ≤ (aL ar1 x23.toInt) ∧ (aL ar1 x23.toInt) ≤ 99 ∧ (aL ar1 x23.toInt) - (aF ar1 x23.toInt) ≤ 198 := t30
          refine lv_istore (lv' := [(6, .int x31), (0, .ref a), (1, .int p0), (2, .int x10), (3, .int x11), (4, .int x12), (5, .int x13)]) hx hb dX11_all_56 hl (by decide) rfl (fun ls hl => ?_)
          have L58 : ∀ (N37 : Nat) (x33 : Int32) (x34 : Int32) (x35 : Int32) (x36 : Int32) (H : Heap) (locs : List Loc) (ls : Array Slot), (aF ar1 (aI f6 x13.toInt)) ≤ x36.toInt ∧ x36.toInt ≤ (aL ar1 (aI f6 x13.toInt)) + 1 → 2147483648 - x36.toInt < ((N37 : Nat) : Int) → TW E K F (tl, [0, z1, z2, u5, z4, z5, z6, z7, z8, z9, z10, z11, z12, z13, z14, z15, z16, z17, z18, z19, z20], [ar0, ar1, f6, ar3, ar4, ar5, ar6, ar7, ar8, ar9, ar10]) [] H → va_S (xA E) s.heap H locs → lv_has ls 7 [(0, .ref a), (1, .int p0), (2, .int x33), (3, .int x34), (4, .int x35), (5, .int x13), (6, .int x36)] → W p l e rm_X11_all s m args below meth c H locs 0 0 Q (F0 m 58 ls []) := by
            intro N37
            induction N37 with
            | zero =>
              intro x33 x34 x35 x36 H locs ls hf38 hm39
              exact absurd hm39 (z_X11_all_6 x31.toInt x36.toInt (aF ar1 (aI f6 x13.toInt)) (aF ar1 x23.toInt) (aL ar1 (aI f6 x13.toInt)) (aL ar1 x23.toInt) hf38 v29 t30 (xr x31) (xr x36))
            | succ N37 ih40 =>
              intro x33 x34 x35 x36 H locs ls hf38 hm39 hT hS hl
              refine lv_iload hx hb dX11_all_58 (lv_at hl 6 rfl) ?_
              refine lv_aload_n hx hb dX11_all_60 rfl (lv_at hl 0 rfl) ?_
              refine lv_aload_n hx hb dX11_all_61 rfl (lv_at hl 0 rfl) ?_
              refine gX11_15 S hK hT ha kf_X11_48 dX11_all_62 (fun hk41 => ?_)
              refine lv_iload hx hb dX11_all_65 (lv_at hl 5 rfl) ?_
              refine tld_0 S hK hT hk41 (at_42 (f := f6) rfl) (by decide) (z_X11_all_7 u5.toInt x13.toInt N14 (oV ar1 f6) t7 hf15 hm16 c18 (xr u5) (xr x13)) dX11_all_67 (fun x42 w43 o44 => ?_)
              have v46 : 0 ≤ x42.toInt ∧ x42.toInt ≤ 11 ∧ 0 ≤ (aI ar1 (10 * x42.toInt + (0 : Int))) := oV_get w43 (z_X11_all_8 u5.toInt x13.toInt N14 (oV ar1 f6) t7 hf15 hm16 c18 (xr u5) (xr x13))
              have v47 : (-1 ≤ (aI ar1 (10 * x42.toInt + (0 : Int))) ∧ (aI ar1 (10 * x42.toInt + (0 : Int))) ≤ 5) ∧ (0 ≤ (aI ar1 (10 * x42.toInt + (1 : Int))) ∧ (aI ar1 (10 * x42.toInt + (1 : Int))) ≤ 2) ∧ (0 ≤ (aI ar1 (10 * x42.toInt + (2 : Int))) ∧ (aI ar1 (10 * x42.toInt + (2 : Int))) ≤ 2) ∧ (-1 ≤ (aI ar1 (10 * x42.toInt + (3 : Int))) ∧ (aI ar1 (10 * x42.toInt + (3 : Int))) ≤ 2) ∧ ((aI ar1 (10 * x42.toInt + (0 : Int))) = 1 ∨ (aI ar1 (10 * x42.toInt + (0 : Int))) = 3 ∨ (aI ar1 (10 * x42.toInt + (0 : Int))) = 4 → 0 ≤ (aI ar1 (10 * x42.toInt + (3 : Int)))) := RV.row hR (z_X11_all_9 x23.toInt x42.toInt (aI ar1 (10 * x23.toInt + (0 : Int))) (aI ar1 (10 * x23.toInt + (1 : Int))) (aI ar1 (10 * x23.toInt + (2 : Int))) (aI ar1 (10 * x23.toInt + (3 : Int))) (aI ar1 (10 * x42.toInt + (0 : Int))) (aI f6 x13.toInt) w24 v27 v28 w43 v46 (xr x23) (xr x42))
              have v48 : (aF ar1 x42.toInt) = (aF ar1 (aI f6 x13.toInt)) ∧ (aL ar1 x42.toInt) = (aL ar1 (aI f6 x13.toInt)) := by rw [w43]; exact ⟨rfl, rfl⟩
              refine x_clp (x_runV (b := a) (As := [.int x42]) (rest := [.int x36]) S (c_X11_lastSubject l E K F tl 0 z1 z2 u5 z4 z5 z6 z7 z8 z9 z10 z11 z12 z13 z14 z15 z16 z17 z18 z19 z20 ar0 ar1 f6 ar3 ar4 ar5 ar6 ar7 ar8 ar9 ar10 H a x42 ha hR (z_X11_all_10 x23.toInt x42.toInt (aI ar1 (10 * x23.toInt + (0 : Int))) (aI ar1 (10 * x23.toInt + (1 : Int))) (aI ar1 (10 * x23.toInt + (2 : Int))) (aI ar1 (10 * x23.toInt + (3 : Int))) (aI ar1 (10 * x42.toInt + (0 : Int))) (aI ar1 (10 * x42.toInt + (1 : Int))) (aI ar1 (10 * x42.toInt + (2 : Int))) (aI ar1 (10 * x42.toInt + (3 : Int))) (aI f6 x13.toInt) w24 v27 v28 w43 v46 v47 (xr x23) (xr x42))) mv_X11_lastSubject km_X11_183 rfl rfl ⟨Nat.le_of_ble_eq_true rfl, Nat.le_of_ble_eq_true rfl⟩ (rc_13 hK hT ha) hK (fun _ => XPh.blind) (fun U hU hW => XPh.at hK hz hS hT hU hW) rfl hl.1 (Nat.le_of_ble_eq_true rfl) dX11_all_68 ⟨Nat.le_of_ble_eq_true rfl, Nat.le_of_ble_eq_true rfl⟩) hS ?_
              rintro _ _ locs ⟨x50, rfl, t49⟩ hS
              have t49 : x50.toInt = (aL ar1 x42.toInt) ∧ -99 ≤ (aF ar1 x42.toInt) ∧ (aF ar1 x42.toInt) ≤ 0 ∧ 29 ≤ (aL ar1 x42.toInt) ∧ (aL ar1 x42.toInt) ≤ 99 ∧ (aL ar1 x42.toInt) - (aF ar1 x42.toInt) ≤ 198 := t49
              refine xi_cgt (tgt := 133) hx hb (rfl : Int32.toInt x36 = x36.toInt) (rfl : Int32.toInt x50 = x50.toInt) dX11_all_71 (by decide) (fun c52 => ?_) (fun c52 => ?_)
              · refine xi_iinc (n := 1) (lv' := fun z9 => [(5, .int z9), (0, .ref a), (1, .int p0), (2, .int x33), (3, .int x34), (4, .int x35), (6, .int x36)]) (k := 5) hx hb (rfl : Int32.toInt x13 = x13.toInt) (by decide) dX11_all_133 hl rfl (by decide) (fun _ => rfl) (fun x53 ls t54 hl => ?_)
                have hl : lv_has ls 7 [(5, .int x53), (0, .ref a), (1, .int p0), (2, .int x33), (3, .int x34), (4, .int x35), (6, .int x36)] := hl
                refine lv_goto (tgt := 36) hx hb dX11_all_136 (by decide) ?_
                exact ih17 x33 x34 x35 x53 _ _ _ (z_X11_all_11 u5.toInt x13.toInt x53.toInt N14 (oV ar1 f6) t7 hf15 hm16 c18 t54 (xr u5) (xr x13) (xr x53)) (z_X11_all_12 u5.toInt x13.toInt x53.toInt N14 (oV ar1 f6) t7 hf15 hm16 c18 t54 (xr u5) (xr x13) (xr x53)) hT.nil hS (lv_sub hl [1, 2, 3, 4, 5, 0] rfl)
              · refine lv_aload_n hx hb dX11_all_74 rfl (lv_at hl 0 rfl) ?_
                refine lv_aload_n hx hb dX11_all_75 rfl (lv_at hl 0 rfl) ?_
                refine gX11_15 S hK hT ha kf_X11_48 dX11_all_76 (fun hk55 => ?_)
                refine lv_iload hx hb dX11_all_79 (lv_at hl 5 rfl) ?_
                refine tld_0 S hK hT hk55 (at_42 (f := f6) rfl) (by decide) (z_X11_all_13 u5.toInt x13.toInt N14 (oV ar1 f6) t7 hf15 hm16 c18 (xr u5) (xr x13)) dX11_all_81 (fun x56 w57 o58 => ?_)
                have v60 : 0 ≤ x56.toInt ∧ x56.toInt ≤ 11 ∧ 0 ≤ (aI ar1 (10 * x56.toInt + (0 : Int))) := oV_get w57 (z_X11_all_14 u5.toInt x13.toInt N14 (oV ar1 f6) t7 hf15 hm16 c18 (xr u5) (xr x13))
                have v61 : (-1 ≤ (aI ar1 (10 * x56.toInt + (0 : Int))) ∧ (aI ar1 (10 * x56.toInt + (0 : Int))) ≤ 5) ∧ (0 ≤ (aI ar1 (10 * x56.toInt + (1 : Int))) ∧ (aI ar1 (10 * x56.toInt + (1 : Int))) ≤ 2) ∧ (0 ≤ (aI ar1 (10 * x56.toInt + (2 : Int))) ∧ (aI ar1 (10 * x56.toInt + (2 : Int))) ≤ 2) ∧ (-1 ≤ (aI ar1 (10 * x56.toInt + (3 : Int))) ∧ (aI ar1 (10 * x56.toInt + (3 : Int))) ≤ 2) ∧ ((aI ar1 (10 * x56.toInt + (0 : Int))) = 1 ∨ (aI ar1 (10 * x56.toInt + (0 : Int))) = 3 ∨ (aI ar1 (10 * x56.toInt + (0 : Int))) = 4 → 0 ≤ (aI ar1 (10 * x56.toInt + (3 : Int)))) := RV.row hR (z_X11_all_15 x23.toInt x42.toInt x56.toInt (aI ar1 (10 * x23.toInt + (0 : Int))) (aI ar1 (10 * x23.toInt + (1 : Int))) (aI ar1 (10 * x23.toInt + (2 : Int))) (aI ar1 (10 * x23.toInt + (3 : Int))) (aI ar1 (10 * x42.toInt + (0 : Int))) (aI ar1 (10 * x42.toInt + (1 : Int))) (aI ar1 (10 * x42.toInt + (2 : Int))) (aI ar1 (10 * x42.toInt + (3 : Int))) (aI ar1 (10 * x56.toInt + (0 : Int))) (aI f6 x13.toInt) w24 v27 v28 w43 v46 v47 w57 v60 (xr x23) (xr x42) (xr x56))
                have v62 : (aF ar1 x56.toInt) = (aF ar1 (aI f6 x13.toInt)) ∧ (aL ar1 x56.toInt) = (aL ar1 (aI f6 x13.toInt)) := by rw [w57]; exact ⟨rfl, rfl⟩
                refine lv_iload hx hb dX11_all_82 (lv_at hl 6 rfl) ?_
                refine lv_aload_n hx hb dX11_all_84 rfl (lv_at hl 0 rfl) ?_
                refine gX11_1 S hK hT ha kf_X11_9 dX11_all_85 (fun hk63 => ?_)
                refine lv_iconst (v := 0) hx hb dX11_all_88 (by decide) ?_
                refine x_clp (x_runV (b := a) (As := [.int x56, .int x36, .ref (F a 1), .int 0]) (rest := []) S (c_X11_fails l E K F tl 0 z1 z2 u5 z4 z5 z6 z7 z8 z9 z10 z11 z12 z13 z14 z15 z16 z17 z18 z19 z20 ar0 ar1 f6 ar3 ar4 ar5 ar6 ar7 ar8 ar9 ar10 H a x56 x36 (F a 1) 0 ha (XO.a hk63 (by decide)) hR (z_X11_all_16 x23.toInt x42.toInt x56.toInt (aI ar1 (10 * x23.toInt + (0 : Int))) (aI ar1 (10 * x23.toInt + (1 : Int))) (aI ar1 (10 * x23.toInt + (2 : Int))) (aI ar1 (10 * x23.toInt + (3 : Int))) (aI ar1 (10 * x42.toInt + (0 : Int))) (aI ar1 (10 * x42.toInt + (1 : Int))) (aI ar1 (10 * x42.toInt + (2 : Int))) (aI ar1 (10 * x42.toInt + (3 : Int))) (aI ar1 (10 * x56.toInt + (0 : Int))) (aI ar1 (10 * x56.toInt + (1 : Int))) (aI ar1 (10 * x56.toInt + (2 : Int))) (aI ar1 (10 * x56.toInt + (3 : Int))) (aI f6 x13.toInt) w24 v27 v28 w43 v46 v47 w57 v60 v61 (xr x23) (xr x42) (xr x56)) (z_X11_all_17 x23.toInt x42.toInt x56.toInt (aI ar1 (10 * x23.toInt + (0 : Int))) (aI ar1 (10 * x23.toInt + (1 : Int))) (aI ar1 (10 * x23.toInt + (2 : Int))) (aI ar1 (10 * x23.toInt + (3 : Int))) (aI ar1 (10 * x42.toInt + (0 : Int))) (aI ar1 (10 * x42.toInt + (1 : Int))) (aI ar1 (10 * x42.toInt + (2 : Int))) (aI ar1 (10 * x42.toInt + (3 : Int))) (aI ar1 (10 * x56.toInt + (0 : Int))) (aI ar1 (10 * x56.toInt + (1 : Int))) (aI ar1 (10 * x56.toInt + (2 : Int))) (aI ar1 (10 * x56.toInt + (3 : Int))) (aI f6 x13.toInt) w24 v27 v28 w43 v46 v47 w57 v60 v61 (xr x23) (xr x42) (xr x56)) (z_X11_all_18 x31.toInt x36.toInt x50.toInt N37 (aF ar1 (aI f6 x13.toInt)) (aF ar1 x23.toInt) (aF ar1 x42.toInt) (aF ar1 x56.toInt) (aL ar1 (aI f6 x13.toInt)) (aL ar1 x23.toInt) (aL ar1 x42.toInt) (aL ar1 x56.toInt) v29 t30 hf38 hm39 v48 t49 c52 v62 (xr x31) (xr x36) (xr x50))) mv_X11_fails km_X11_221 rfl rfl ⟨Nat.le_of_ble_eq_true rfl, Nat.le_of_ble_eq_true rfl⟩ (rc_13 hK hT ha) hK (fun _ => XPh.blind) (fun U hU hW => XPh.at hK hz hS hT hU hW) rfl hl.1 (Nat.le_of_ble_eq_true rfl) dX11_all_89 ⟨Nat.le_of_ble_eq_true rfl, Nat.le_of_ble_eq_true rfl⟩) hS ?_
                rintro _ _ locs ⟨x64, rfl, b65⟩ hS
                have J127 : ∀ (x66 : Int32) (x67 : Int32) (x68 : Int32) (H : Heap) (locs : List Loc) (ls : Array Slot), TW E K F (tl, [0, z1, z2, u5, z4, z5, z6, z7, z8, z9, z10, z11, z12, z13, z14, z15, z16, z17, z18, z19, z20], [ar0, ar1, f6, ar3, ar4, ar5, ar6, ar7, ar8, ar9, ar10]) [] H → va_S (xA E) s.heap H locs → lv_has ls 7 [(0, .ref a), (1, .int p0), (2, .int x66), (3, .int x67), (4, .int x68), (5, .int x13), (6, .int x36)] → W p l e rm_X11_all s m args below meth c H locs 0 0 Q (F0 m 127 ls []) := by
                  intro x66 x67 x68 H locs ls hT hS hl
                  refine xi_iinc (n := 1) (lv' := fun z9 => [(6, .int z9), (0, .ref a), (1, .int p0), (2, .int x66), (3, .int x67), (4, .int x68), (5, .int x13)]) (k := 6) hx hb (rfl : Int32.toInt x36 = x36.toInt) (by decide) dX11_all_127 hl rfl (by decide) (fun _ => rfl) (fun x69 ls t70 hl => ?_)
                  have hl : lv_has ls 7 [(6, .int x69), (0, .ref a), (1, .int p0), (2, .int x66), (3, .int x67), (4, .int x68), (5, .int x13)] := hl
                  refine lv_goto (tgt := 58) hx hb dX11_all_130 (by decide) ?_
                  exact ih40 x66 x67 x68 x69 _ _ _ (z_X11_all_19 x31.toInt x36.toInt x50.toInt x69.toInt N37 (aF ar1 (aI f6 x13.toInt)) (aF ar1 x23.toInt) (aF ar1 x42.toInt) (aF ar1 x56.toInt) (aL ar1 (aI f6 x13.toInt)) (aL ar1 x23.toInt) (aL ar1 x42.toInt) (aL ar1 x56.toInt) v29 t30 hf38 hm39 v48 t49 c52 v62 t70 (xr x31) (xr x36) (xr x50) (xr x69)) (z_X11_all_20 x31.toInt x36.toInt x50.toInt x69.toInt N37 (aF ar1 (aI f6 x13.toInt)) (aF ar1 x23.toInt) (aF ar1 x42.toInt) (aF ar1 x56.toInt) (aL ar1 (aI f6 x13.toInt)) (aL ar1 x23.toInt) (aL ar1 x42.toInt) (aL ar1 x56.toInt) v29 t30 hf38 hm39 v48 t49 c52 v62 t70 (xr x31) (xr x36) (xr x50) (xr x69)) hT.nil hS (lv_sub hl [1, 2, 3, 4, 5, 6, 0] rfl)
                refine xi_zeq (tgt := 127) hx hb (rfl : Int32.toInt x64 = x64.toInt) dX11_all_92 (by decide) (fun c71 => ?_) (fun c71 => ?_)
                · exact J127 x33 x34 x35 _ _ _ hT.nil hS (lv_sub hl [0, 1, 2, 3, 4, 5, 6] rfl)
                · refine lv_iload_n hx hb dX11_all_95 rfl (lv_at hl 2 rfl) ?_
                  have J110 : ∀ (x72 : Int32) (H : Heap) (locs : List Loc) (ls : Array Slot), TW E K F (tl, [0, z1, z2, u5, z4, z5, z6, z7, z8, z9, z10, z11, z12, z13, z14, z15, z16, z17, z18, z19, z20], [ar0, ar1, f6, ar3, ar4, ar5, ar6, ar7, ar8, ar9, ar10]) [] H → va_S (xA E) s.heap H locs → lv_has ls 7 [(0, .ref a), (1, .int p0), (2, .int x33), (4, .int x35), (5, .int x13), (6, .int x36)] → W p l e rm_X11_all s m args below meth c H locs 0 0 Q (F0 m 110 ls [.int x72]) := by
                    intro x72 H locs ls hT hS hl
                    refine lv_istore_n (lv' := [(3, .int x72), (0, .ref a), (1, .int p0), (2, .int x33), (4, .int x35), (5, .int x13), (6, .int x36)]) hx hb dX11_all_110 rfl hl (by decide) rfl (fun ls hl => ?_)
                    refine lv_iload_n hx hb dX11_all_111 rfl (lv_at hl 3 rfl) ?_
                    have J122 : ∀ (x73 : Int32) (H : Heap) (locs : List Loc) (ls : Array Slot), TW E K F (tl, [0, z1, z2, u5, z4, z5, z6, z7, z8, z9, z10, z11, z12, z13, z14, z15, z16, z17, z18, z19, z20], [ar0, ar1, f6, ar3, ar4, ar5, ar6, ar7, ar8, ar9, ar10]) [] H → va_S (xA E) s.heap H locs → lv_has ls 7 [(0, .ref a), (1, .int p0), (2, .int x33), (3, .int x72), (5, .int x13), (6, .int x36)] → W p l e rm_X11_all s m args below meth c H locs 0 0 Q (F0 m 122 ls [.int x73]) := by
                      intro x73 H locs ls hT hS hl
                      refine lv_istore (lv' := [(4, .int x73), (0, .ref a), (1, .int p0), (2, .int x33), (3, .int x72), (5, .int x13), (6, .int x36)]) hx hb dX11_all_122 hl (by decide) rfl (fun ls hl => ?_)
                      refine xi_iinc (n := 1) (lv' := fun z9 => [(2, .int z9), (4, .int x73), (0, .ref a), (1, .int p0), (3, .int x72), (5, .int x13), (6, .int x36)]) (k := 3) hx hb (rfl : Int32.toInt x33 = x33.toInt) (by decide) dX11_all_124 hl rfl (by decide) (fun _ => rfl) (fun x74 ls t75 hl => ?_)
                      have hl : lv_has ls 7 [(2, .int x74), (4, .int x73), (0, .ref a), (1, .int p0), (3, .int x72), (5, .int x13), (6, .int x36)] := hl
                      exact J127 x74 x72 x73 _ _ _ hT.nil hS (lv_sub hl [2, 3, 0, 4, 1, 5, 6] rfl)
                    refine xi_zne (tgt := 120) hx hb (rfl : Int32.toInt x33 = x33.toInt) dX11_all_112 (by decide) (fun c76 => ?_) (fun c76 => ?_)
                    · refine lv_iload hx hb dX11_all_120 (lv_at hl 4 rfl) ?_
                      exact J122 x35 _ _ _ hT.nil hS (lv_sub hl [1, 2, 3, 0, 5, 6] rfl)
                    · refine lv_iload hx hb dX11_all_115 (lv_at hl 6 rfl) ?_
                      refine lv_goto (tgt := 122) hx hb dX11_all_117 (by decide) ?_
                      exact J122 x36 _ _ _ hT.nil hS (lv_sub hl [1, 2, 3, 0, 5, 6] rfl)
                  refine xi_zne (tgt := 109) hx hb (rfl : Int32.toInt x33 = x33.toInt) dX11_all_96 (by decide) (fun c77 => ?_) (fun c77 => ?_)
                  · refine lv_iload_n hx hb dX11_all_109 rfl (lv_at hl 3 rfl) ?_
                    exact J110 x34 _ _ _ hT.nil hS (lv_sub hl [0, 1, 2, 4, 5, 6] rfl)
                  · refine lv_aload_n hx hb dX11_all_99 rfl (lv_at hl 0 rfl) ?_
                    refine gX11_15 S hK hT ha kf_X11_48 dX11_all_100 (fun hk78 => ?_)
                    refine lv_iload hx hb dX11_all_103 (lv_at hl 5 rfl) ?_
                    refine tld_0 S hK hT hk78 (at_42 (f := f6) rfl) (by decide) (z_X11_all_21 u5.toInt x13.toInt N14 (oV ar1 f6) t7 hf15 hm16 c18 (xr u5) (xr x13)) dX11_all_105 (fun x79 w80 o81 => ?_)
                    have v83 : 0 ≤ x79.toInt ∧ x79.toInt ≤ 11 ∧ 0 ≤ (aI ar1 (10 * x79.toInt + (0 : Int))) := oV_get w80 (z_X11_all_22 u5.toInt x13.toInt N14 (oV ar1 f6) t7 hf15 hm16 c18 (xr u5) (xr x13))
                    have v84 : (-1 ≤ (aI ar1 (10 * x79.toInt + (0 : Int))) ∧ (aI ar1 (10 * x79.toInt + (0 : Int))) ≤ 5) ∧ (0 ≤ (aI ar1 (10 * x79.toInt + (1 : Int))) ∧ (aI ar1 (10 * x79.toInt + (1 : Int))) ≤ 2) ∧ (0 ≤ (aI ar1 (10 * x79.toInt + (2 : Int))) ∧ (aI ar1 (10 * x79.toInt + (2 : Int))) ≤ 2) ∧ (-1 ≤ (aI ar1 (10 * x79.toInt + (3 : Int))) ∧ (aI ar1 (10 * x79.toInt + (3 : Int))) ≤ 2) ∧ ((aI ar1 (10 * x79.toInt + (0 : Int))) = 1 ∨ (aI ar1 (10 * x79.toInt + (0 : Int))) = 3 ∨ (aI ar1 (10 * x79.toInt + (0 : Int))) = 4 → 0 ≤ (aI ar1 (10 * x79.toInt + (3 : Int)))) := RV.row hR (z_X11_all_23 x23.toInt x42.toInt x56.toInt x79.toInt (aI ar1 (10 * x23.toInt + (0 : Int))) (aI ar1 (10 * x23.toInt + (1 : Int))) (aI ar1 (10 * x23.toInt + (2 : Int))) (aI ar1 (10 * x23.toInt + (3 : Int))) (aI ar1 (10 * x42.toInt + (0 : Int))) (aI ar1 (10 * x42.toInt + (1 : Int))) (aI ar1 (10 * x42.toInt + (2 : Int))) (aI ar1 (10 * x42.toInt + (3 : Int))) (aI ar1 (10 * x56.toInt + (0 : Int))) (aI ar1 (10 * x56.toInt + (1 : Int))) (aI ar1 (10 * x56.toInt + (2 : Int))) (aI ar1 (10 * x56.toInt + (3 : Int))) (aI ar1 (10 * x79.toInt + (0 : Int))) (aI f6 x13.toInt) w24 v27 v28 w43 v46 v47 w57 v60 v61 w80 v83 (xr x23) (xr x42) (xr x56) (xr x79))
                    have v85 : (aF ar1 x79.toInt) = (aF ar1 (aI f6 x13.toInt)) ∧ (aL ar1 x79.toInt) = (aL ar1 (aI f6 x13.toInt)) := by rw [w80]; exact ⟨rfl, rfl⟩
                    refine lv_goto (tgt := 110) hx hb dX11_all_106 (by decide) ?_
                    exact J110 x79 _ _ _ hT.nil hS (lv_sub hl [0, 1, 2, 4, 5, 6] rfl)
          exact L58 4294967297 x10 x11 x12 x31 _ _ _ (z_X11_all_24 x31.toInt (aF ar1 (aI f6 x13.toInt)) (aF ar1 x23.toInt) (aL ar1 (aI f6 x13.toInt)) (aL ar1 x23.toInt) v29 t30 (xr x31)) (z_X11_all_25 x31.toInt (aF ar1 (aI f6 x13.toInt)) (aF ar1 x23.toInt) (aL ar1 (aI f6 x13.toInt)) (aL ar1 x23.toInt) v29 t30 (xr x31)) hT.nil hS (lv_sub hl [1, 2, 3, 4, 5, 6, 0] rfl)
    exact L36 4294967297 0 (-2147483648) (-2147483648) 0 _ _ _ (by decide) (by decide) hT.nil hS (lv_sub hl [4, 5, 3, 2, 1, 0] rfl)
  · refine lv_ldc (v := (-2147483648)) hx hb S.2.2.2.1 (S.2.2.2.2 _ (List.mem_cons_of_mem _ kc_X11_57)) dX11_all_17 ?_
    exact x_ri hx hb hr hlk hQ (Nat.le_of_ble_eq_true rfl) (Nat.le_of_ble_eq_true rfl) hS dX11_all_19 (0, z3, ar2) ⟨_, rfl⟩ hT.nil

abbrev rm_X11_wouldTell : Room := { frames := 7, cells := 0, slots := 0, locals := 166 }
set_option maxHeartbeats 4000000 in
set_option maxRecDepth 100000 in
theorem c_X11_wouldTell (l : Launch) (E : XE) (K : Nat → Nat) (F : Nat → Nat → Nat) (tl z0 z1 z2 z3 z4 z5 z6 z7 z8 z9 z10 z11 z12 z13 z14 z15 z16 z17 z18 z19 z20 : Int32) (ar0 ar1 ar2 ar3 ar4 ar5 ar6 ar7 ar8 ar9 ar10 : Nat → Int32) (a : Nat) (ha : K a = 13) (hR : RV ar1) : Met l yX11_wouldTell (xw yX11_wouldTell cX11_wouldTell 2 (some .int)) rm_X11_wouldTell (va_Pc [.ref a] (XP E K F (tl, [z0, z1, z2, z3, z4, z5, z6, z7, z8, z9, z10, z11, z12, z13, z14, z15, z16, z17, z18, z19, z20], [ar0, ar1, ar2, ar3, ar4, ar5, ar6, ar7, ar8, ar9, ar10]))) (XQ E (fun v (u : Int32 × Int32 × Int32 × Int32 × (Nat → Int32) × (Nat → Int32) × (Nat → Int32) × (Nat → Int32)) => ∃ r : Int32, v = .int r) (fun u H => TW E K F (tl, [z0, z1, z2, u.1, u.2.1, z5, z6, z7, z8, z9, z10, z11, z12, z13, u.2.2.1, u.2.2.2.1, z16, z17, z18, z19, z20], [u.2.2.2.2.1, ar1, u.2.2.2.2.2.1, u.2.2.2.2.2.2.1, u.2.2.2.2.2.2.2, ar5, ar6, ar7, ar8, ar9, ar10]) [] H)) 0 0 (xA E) := by
  refine x_enter (by decide) (Nat.le_of_ble_eq_true rfl) ?_
  intro p e s m args below meth c Q S hr hlk hnm hQ hP ls hl
  obtain ⟨hz, hK, hT⟩ := hP
  obtain ⟨hx, hb, -, -, -⟩ := id S
  obtain ⟨H, hT, hS, hgo⟩ : ∃ H : Heap, TW E K F (tl, [z0, z1, z2, z3, z4, z5, z6, z7, z8, z9, z10, z11, z12, z13, z14, z15, z16, z17, z18, z19, z20], [ar0, ar1, ar2, ar3, ar4, ar5, ar6, ar7, ar8, ar9, ar10]) [] H ∧ va_S (xA E) s.heap H [] ∧ H = s.heap := ⟨_, hT, va_S.rf, rfl⟩
  rw [← hgo]
  have hl : lv_has ls 2 [(0, .ref a)] := hl
  refine lv_aload_n hx hb dX11_wouldTell_0 rfl (lv_at hl 0 rfl) ?_
  refine x_cl0 (x_runV (b := a) (As := []) (rest := []) S (c_X11_look l E K F tl z0 z1 z2 z3 z4 z5 z6 z7 z8 z9 z10 z11 z12 z13 z14 z15 z16 z17 z18 z19 z20 ar0 ar1 ar2 ar3 ar4 ar5 ar6 ar7 ar8 ar9 ar10 a ha hR) mv_X11_look km_X11_328 rfl rfl ⟨Nat.le_of_ble_eq_true rfl, Nat.le_of_ble_eq_true rfl⟩ (rc_13 hK hT ha) hK (fun _ => XP.blind) (fun U hU hW => XP.at hK hz hS hT hU hW) rfl hl.1 (Nat.le_of_ble_eq_true rfl) dX11_wouldTell_1 ⟨Nat.le_of_ble_eq_true rfl, Nat.le_of_ble_eq_true rfl⟩) hS ?_
  rintro _ ⟨u1, u2, u3, u4, f5, f6, f7⟩ H locs ⟨x9, rfl, t8⟩ hT hS
  have hT : TW E K F (tl, [z0, z1, z2, u1, u2, z5, z6, z7, z8, z9, z10, z11, z12, z13, u3, u4, z16, z17, z18, z19, z20], [ar0, ar1, f5, f6, f7, ar5, ar6, ar7, ar8, ar9, ar10]) [] H := hT
  have t8 : 0 ≤ u2.toInt ∧ u2.toInt ≤ 2388 ∧ u2.toInt ≤ (((fV ar1 f6 f7) : Nat) : Int) ∧ u4.toInt = x9.toInt ∧ (x9.toInt = -1 ∨ (0 ≤ x9.toInt ∧ x9.toInt < u2.toInt)) := t8
  refine lv_iconst (v := (-1)) hx hb dX11_wouldTell_4 (by decide) ?_
  have J38 : ∀ (x11 : Int32) (x12 : Int32) (f13 : Nat → Int32) (f14 : Nat → Int32) (f15 : Nat → Int32) (x16 : Int32) (H : Heap) (locs : List Loc) (ls : Array Slot), TW E K F (tl, [z0, z1, z2, x11, x12, z5, z6, z7, z8, z9, z10, z11, z12, z13, u3, u4, z16, z17, z18, z19, z20], [ar0, ar1, f13, f14, f15, ar5, ar6, ar7, ar8, ar9, ar10]) [] H → va_S (xA E) s.heap H locs → lv_has ls 2 [(0, .ref a)] → W p l e rm_X11_wouldTell s m args below meth c H locs 0 0 Q (F0 m 38 ls [.int x16]) := by
    intro x11 x12 f13 f14 f15 x16 H locs ls hT hS hl
    refine lv_istore_n (lv' := [(1, .int x16), (0, .ref a)]) hx hb dX11_wouldTell_38 rfl hl (by decide) rfl (fun ls hl => ?_)
    refine lv_aload_n hx hb dX11_wouldTell_39 rfl (lv_at hl 1 rfl) ?_
    refine gX11_4 S hK hT ha kf_X11_21 dX11_wouldTell_40 (fun hk17 => ?_)
    refine lv_iconst (v := 0) hx hb dX11_wouldTell_43 (by decide) ?_
    refine lv_aload_n hx hb dX11_wouldTell_44 rfl (lv_at hl 1 rfl) ?_
    refine gX11_1 S hK hT ha kf_X11_9 dX11_wouldTell_45 (fun hk18 => ?_)
    refine lv_iconst (v := 0) hx hb dX11_wouldTell_48 (by decide) ?_
    refine x_cv0 (x_runS (As := [.ref (F a 4), .int 0, .ref (F a 1), .int 0]) (rest := []) S (c_X11_copy_r l E K F tl z0 z1 z2 x11 x12 z5 z6 z7 z8 z9 z10 z11 z12 z13 u3 u4 z16 z17 z18 z19 z20 ar0 ar1 f13 f14 f15 ar5 ar6 ar7 ar8 ar9 ar10 (F a 4) 0 (F a 1) 0 (XO.b hk17 (by decide)) hk18 (by decide)) ms_X11_copy km_X11_309 rfl rfl ⟨Nat.le_of_ble_eq_true rfl, Nat.le_of_ble_eq_true rfl⟩ hK (fun _ => XP.blind) (fun U hU hW => XP.at hK hz hS hT hU hW) rfl hl.1 (Nat.le_of_ble_eq_true rfl) dX11_wouldTell_49 ⟨Nat.le_of_ble_eq_true rfl, Nat.le_of_ble_eq_true rfl⟩) hS ?_
    rintro f19 H locs - hT hS
    have hT : TW E K F (tl, [z0, z1, z2, x11, x12, z5, z6, z7, z8, z9, z10, z11, z12, z13, u3, u4, z16, z17, z18, z19, z20], [f19, ar1, f13, f14, f15, ar5, ar6, ar7, ar8, ar9, ar10]) [] H := hT
    refine lv_iload_n hx hb dX11_wouldTell_52 rfl (lv_at hl 0 rfl) ?_
    exact x_ri hx hb hr hlk hQ (Nat.le_of_ble_eq_true rfl) (Nat.le_of_ble_eq_true rfl) hS dX11_wouldTell_53 (x11, x12, u3, u4, f19, f13, f14, f15) ⟨_, rfl⟩ hT.nil
  refine xi_ceq (tgt := 13) hx hb (rfl : Int32.toInt x9 = x9.toInt) ((by decide) : Int32.toInt (-1) = (-1 : Int)) dX11_wouldTell_5 (by decide) (fun c22 => ?_) (fun c22 => ?_)
  · refine lv_aload_n hx hb dX11_wouldTell_13 rfl (lv_at hl 0 rfl) ?_
    refine gX11_6 S hK hT ha kf_X11_206 dX11_wouldTell_14 (v := z1) rfl ?_
    have J34 : ∀ (x23 : Int32) (x24 : Int32) (f25 : Nat → Int32) (f26 : Nat → Int32) (f27 : Nat → Int32) (H : Heap) (locs : List Loc) (ls : Array Slot), TW E K F (tl, [z0, z1, z2, x23, x24, z5, z6, z7, z8, z9, z10, z11, z12, z13, u3, u4, z16, z17, z18, z19, z20], [ar0, ar1, f25, f26, f27, ar5, ar6, ar7, ar8, ar9, ar10]) [] H → va_S (xA E) s.heap H locs → lv_has ls 2 [(0, .ref a)] → W p l e rm_X11_wouldTell s m args below meth c H locs 0 0 Q (F0 m 34 ls []) := by
      intro x23 x24 f25 f26 f27 H locs ls hT hS hl
      refine lv_aload_n hx hb dX11_wouldTell_34 rfl (lv_at hl 0 rfl) ?_
      refine gX11_45 S hK hT ha kf_X11_316 dX11_wouldTell_35 (v := u3) rfl ?_
      exact J38 x23 x24 f25 f26 f27 u3 _ _ _ hT.nil hS (lv_sub hl [0] rfl)
    refine xi_zne (tgt := 34) hx hb (rfl : Int32.toInt z1 = z1.toInt) dX11_wouldTell_17 (by decide) (fun c28 => ?_) (fun c28 => ?_)
    · exact J34 u1 u2 f5 f6 f7 _ _ _ hT.nil hS (lv_sub hl [0] rfl)
    · refine lv_aload_n hx hb dX11_wouldTell_20 rfl (lv_at hl 0 rfl) ?_
      refine lv_iconst (v := 1) hx hb dX11_wouldTell_21 (by decide) ?_
      refine x_cl0 (x_runV (b := a) (As := [.int 1]) (rest := []) S (c_X11_asks l E K F tl z0 z1 z2 u1 u2 z5 z6 z7 z8 z9 z10 z11 z12 z13 u3 u4 z16 z17 z18 z19 z20 ar0 ar1 f5 f6 f7 ar5 ar6 ar7 ar8 ar9 ar10 a 1 ha hR) mv_X11_asks km_X11_319 rfl rfl ⟨Nat.le_of_ble_eq_true rfl, Nat.le_of_ble_eq_true rfl⟩ (rc_13 hK hT ha) hK (fun _ => XP.blind) (fun U hU hW => XP.at hK hz hS hT hU hW) rfl hl.1 (Nat.le_of_ble_eq_true rfl) dX11_wouldTell_22 ⟨Nat.le_of_ble_eq_true rfl, Nat.le_of_ble_eq_true rfl⟩) hS ?_
      rintro _ ⟨u29, u30, f31, f32, f33⟩ H locs ⟨x35, rfl, t34⟩ hT hS
      have hT : TW E K F (tl, [z0, z1, z2, u29, u30, z5, z6, z7, z8, z9, z10, z11, z12, z13, u3, u4, z16, z17, z18, z19, z20], [ar0, ar1, f31, f32, f33, ar5, ar6, ar7, ar8, ar9, ar10]) [] H := hT
      have t34 : 0 ≤ u30.toInt ∧ u30.toInt ≤ 2388 ∧ u30.toInt ≤ (((fV ar1 f32 f33) : Nat) : Int) ∧ (x35.toInt = -1 ∨ (0 ≤ x35.toInt ∧ x35.toInt < u30.toInt)) := t34
      refine lv_iconst (v := (-1)) hx hb dX11_wouldTell_25 (by decide) ?_
      refine xi_ceq (tgt := 34) hx hb (rfl : Int32.toInt x35 = x35.toInt) ((by decide) : Int32.toInt (-1) = (-1 : Int)) dX11_wouldTell_26 (by decide) (fun c37 => ?_) (fun c37 => ?_)
      · exact J34 u29 u30 f31 f32 f33 _ _ _ hT.nil hS (lv_sub hl [0] rfl)
      · refine lv_bipush (v := (-5)) hx hb dX11_wouldTell_29 (by decide) ?_
        refine lv_goto (tgt := 38) hx hb dX11_wouldTell_31 (by decide) ?_
        exact J38 u29 u30 f31 f32 f33 (-5) _ _ _ hT.nil hS (lv_sub hl [0] rfl)
  · refine lv_bipush (v := (-5)) hx hb dX11_wouldTell_8 (by decide) ?_
    refine lv_goto (tgt := 38) hx hb dX11_wouldTell_10 (by decide) ?_
    exact J38 u1 u2 f5 f6 f7 (-5) _ _ _ hT.nil hS (lv_sub hl [0] rfl)

theorem z_X11_wouldSet_1 (a0 : Int) (a1 : Int) (a2 : Int) (a3 : Int) (a4 : Int) (a5 : Int) (a6 : Int) (h0 : a5 = 0 → 0 ≤ a0 ∧ a0 ≤ 2 ∧ 0 ≤ a1 ∧ a1 ≤ 29 ∧ 0 ≤ a2 ∧ a2 ≤ 2) (h1 : a5 = 0) (h2 : 0 ≤ a0 ∧ a0 ≤ 2 ∧ 0 ≤ a1 ∧ a1 ≤ 29 → a6 = 4 * (30 * a0 + a1)) (h3 : a3 = a6 + (1 : Int) ∨ a6 + (1 : Int) < -2147483648 ∨ 2147483648 ≤ a6 + (1 : Int)) (h4 : a4 = a3 + a2 ∨ a3 + a2 < -2147483648 ∨ 2147483648 ≤ a3 + a2) (r0 : -2147483648 ≤ a0 ∧ a0 < 2147483648) (r1 : -2147483648 ≤ a1 ∧ a1 < 2147483648) (r2 : -2147483648 ≤ a2 ∧ a2 < 2147483648) (r3 : -2147483648 ≤ a3 ∧ a3 < 2147483648) (r4 : -2147483648 ≤ a4 ∧ a4 < 2147483648) (r5 : -2147483648 ≤ a5 ∧ a5 < 2147483648) (r6 : -2147483648 ≤ a6 ∧ a6 < 2147483648) : 0 ≤ a4 ∧ a4 < ((360 : Nat) : Int) := by first | (clear h0 h1 h2 h3; omega) | (clear h1 h2; omega) | omega
abbrev rm_X11_wouldSet : Room := { frames := 8, cells := 0, slots := 0, locals := 187 }
set_option maxHeartbeats 4000000 in
set_option maxRecDepth 100000 in
theorem c_X11_wouldSet (l : Launch) (E : XE) (K : Nat → Nat) (F : Nat → Nat → Nat) (tl z0 z1 z2 z3 z4 z5 z6 z7 z8 z9 z10 z11 z12 z13 z14 z15 z16 z17 z18 z19 z20 : Int32) (ar0 ar1 ar2 ar3 ar4 ar5 ar6 ar7 ar8 ar9 ar10 : Nat → Int32) (a : Nat) (p0 : Int32) (p1 : Int32) (p2 : Int32) (p3 : Int32) (ha : K a = 13) (hR : RV ar1) : Met l yX11_wouldSet (xw yX11_wouldSet cX11_wouldSet 6 (some .int)) rm_X11_wouldSet (va_Pc [.ref a, .int p0, .int p1, .int p2, .int p3] (XP E K F (tl, [z0, z1, z2, z3, z4, z5, z6, z7, z8, z9, z10, z11, z12, z13, z14, z15, z16, z17, z18, z19, z20], [ar0, ar1, ar2, ar3, ar4, ar5, ar6, ar7, ar8, ar9, ar10]))) (XQ E (fun v (u : Int32 × Int32 × Int32 × Int32 × Int32 × (Nat → Int32) × (Nat → Int32) × (Nat → Int32) × (Nat → Int32)) => ∃ r : Int32, v = .int r) (fun u H => TW E K F (tl, [u.1, z1, z2, u.2.1, u.2.2.1, z5, z6, z7, z8, z9, z10, z11, z12, z13, u.2.2.2.1, u.2.2.2.2.1, z16, z17, z18, z19, z20], [u.2.2.2.2.2.1, ar1, u.2.2.2.2.2.2.1, u.2.2.2.2.2.2.2.1, u.2.2.2.2.2.2.2.2, ar5, ar6, ar7, ar8, ar9, ar10]) [] H)) 0 0 (xA E) := by
  refine x_enter (by decide) (Nat.le_of_ble_eq_true rfl) ?_
  intro p e s m args below meth c Q S hr hlk hnm hQ hP ls hl
  obtain ⟨hz, hK, hT⟩ := hP
  obtain ⟨hx, hb, -, -, -⟩ := id S
  obtain ⟨H, hT, hS, hgo⟩ : ∃ H : Heap, TW E K F (tl, [z0, z1, z2, z3, z4, z5, z6, z7, z8, z9, z10, z11, z12, z13, z14, z15, z16, z17, z18, z19, z20], [ar0, ar1, ar2, ar3, ar4, ar5, ar6, ar7, ar8, ar9, ar10]) [] H ∧ va_S (xA E) s.heap H [] ∧ H = s.heap := ⟨_, hT, va_S.rf, rfl⟩
  rw [← hgo]
  have hl : lv_has ls 6 [(0, .ref a), (1, .int p0), (2, .int p1), (3, .int p2), (4, .int p3)] := hl
  refine lv_aload_n hx hb dX11_wouldSet_0 rfl (lv_at hl 0 rfl) ?_
  refine lv_iconst (v := 0) hx hb dX11_wouldSet_1 (by decide) ?_
  refine pX11_0 (kq := []) (v := 0) S hK hT hS ha kf_X11_134 (Nat.le_of_ble_eq_true rfl) dX11_wouldSet_2 (fun _ h => by cases h) (fun H locs hT hS => ?_)
  have hT : TW E K F (tl, [0, z1, z2, z3, z4, z5, z6, z7, z8, z9, z10, z11, z12, z13, z14, z15, z16, z17, z18, z19, z20], [ar0, ar1, ar2, ar3, ar4, ar5, ar6, ar7, ar8, ar9, ar10]) [] H := hT
  refine lv_aload_n hx hb dX11_wouldSet_5 rfl (lv_at hl 0 rfl) ?_
  refine lv_iload_n hx hb dX11_wouldSet_6 rfl (lv_at hl 1 rfl) ?_
  refine lv_iload_n hx hb dX11_wouldSet_7 rfl (lv_at hl 2 rfl) ?_
  refine lv_iload_n hx hb dX11_wouldSet_8 rfl (lv_at hl 3 rfl) ?_
  refine lv_iload hx hb dX11_wouldSet_9 (lv_at hl 4 rfl) ?_
  refine x_clp (x_runV (b := a) (As := [.int p0, .int p1, .int p2, .int p3]) (rest := []) S (c_X11_whyNotSet l E K F tl 0 z1 z2 z3 z4 z5 z6 z7 z8 z9 z10 z11 z12 z13 z14 z15 z16 z17 z18 z19 z20 ar0 ar1 ar2 ar3 ar4 ar5 ar6 ar7 ar8 ar9 ar10 H a p0 p1 p2 p3 ha) mv_X11_whyNotSet km_X11_359 rfl rfl ⟨Nat.le_of_ble_eq_true rfl, Nat.le_of_ble_eq_true rfl⟩ (rc_13 hK hT ha) hK (fun _ => XPh.blind) (fun U hU hW => XPh.at hK hz hS hT hU hW) rfl hl.1 (Nat.le_of_ble_eq_true rfl) dX11_wouldSet_11 ⟨Nat.le_of_ble_eq_true rfl, Nat.le_of_ble_eq_true rfl⟩) hS ?_
  rintro _ _ locs ⟨x2, rfl, t1⟩ hS
  have t1 : x2.toInt = 0 → 0 ≤ p0.toInt ∧ p0.toInt ≤ 2 ∧ 0 ≤ p1.toInt ∧ p1.toInt ≤ 29 ∧ 0 ≤ p2.toInt ∧ p2.toInt ≤ 2 := t1
  refine lv_istore (lv' := [(5, .int x2), (0, .ref a), (1, .int p0), (2, .int p1), (3, .int p2), (4, .int p3)]) hx hb dX11_wouldSet_14 hl (by decide) rfl (fun ls hl => ?_)
  refine lv_iload hx hb dX11_wouldSet_16 (lv_at hl 0 rfl) ?_
  refine xi_zeq (tgt := 24) hx hb (rfl : Int32.toInt x2 = x2.toInt) dX11_wouldSet_18 (by decide) (fun c4 => ?_) (fun c4 => ?_)
  · refine lv_aload_n hx hb dX11_wouldSet_24 rfl (lv_at hl 1 rfl) ?_
    refine x_cv0 (x_runV (b := a) (As := []) (rest := []) S (c_X11_start l E K F tl 0 z1 z2 z3 z4 z5 z6 z7 z8 z9 z10 z11 z12 z13 z14 z15 z16 z17 z18 z19 z20 ar0 ar1 ar2 ar3 ar4 ar5 ar6 ar7 ar8 ar9 ar10 a ha hR) mv_X11_start km_X11_350 rfl rfl ⟨Nat.le_of_ble_eq_true rfl, Nat.le_of_ble_eq_true rfl⟩ (rc_13 hK hT ha) hK (fun _ => XP.blind) (fun U hU hW => XP.at hK hz hS hT hU hW) rfl hl.1 (Nat.le_of_ble_eq_true rfl) dX11_wouldSet_25 ⟨Nat.le_of_ble_eq_true rfl, Nat.le_of_ble_eq_true rfl⟩) hS ?_
    rintro _ H locs - hT hS
    refine lv_aload_n hx hb dX11_wouldSet_28 rfl (lv_at hl 1 rfl) ?_
    refine gX11_1 S hK hT ha kf_X11_9 dX11_wouldSet_29 (fun hk7 => ?_)
    refine lv_iload_n hx hb dX11_wouldSet_32 rfl (lv_at hl 2 rfl) ?_
    refine lv_iload_n hx hb dX11_wouldSet_33 rfl (lv_at hl 3 rfl) ?_
    refine x_clp (x_runS (As := [.int p0, .int p1]) (rest := [.ref (F a 1)]) S (c_X11_at l E K F tl 0 z1 z2 z3 z4 z5 z6 z7 z8 z9 z10 z11 z12 z13 z14 z15 z16 z17 z18 z19 z20 ar0 ar1 ar2 ar3 ar4 ar5 ar6 ar7 ar8 ar9 ar10 H p0 p1) ms_X11_at km_X11_156 rfl rfl ⟨Nat.le_of_ble_eq_true rfl, Nat.le_of_ble_eq_true rfl⟩ hK (fun _ => XPh.blind) (fun U hU hW => XPh.at hK hz hS hT hU hW) rfl hl.1 (Nat.le_of_ble_eq_true rfl) dX11_wouldSet_34 ⟨Nat.le_of_ble_eq_true rfl, Nat.le_of_ble_eq_true rfl⟩) hS ?_
    rintro _ _ locs ⟨x9, rfl, t8⟩ hS
    have t8 : 0 ≤ p0.toInt ∧ p0.toInt ≤ 2 ∧ 0 ≤ p1.toInt ∧ p1.toInt ≤ 29 → x9.toInt = 4 * (30 * p0.toInt + p1.toInt) := t8
    refine lv_iconst (v := 1) hx hb dX11_wouldSet_37 (by decide) ?_
    refine xi_iadd hx hb (rfl : Int32.toInt x9 = x9.toInt) ((by decide) : Int32.toInt 1 = (1 : Int)) dX11_wouldSet_38 (fun x11 t12 => ?_)
    refine lv_iload_n hx hb dX11_wouldSet_39 rfl (lv_at hl 4 rfl) ?_
    refine xi_iadd hx hb (rfl : Int32.toInt x11 = x11.toInt) (rfl : Int32.toInt p2 = p2.toInt) dX11_wouldSet_40 (fun x13 t14 => ?_)
    refine lv_iload hx hb dX11_wouldSet_41 (lv_at hl 5 rfl) ?_
    refine tst_0 S hK hT hS hk7 (at_30 (f := ar0) rfl) (fun _ => bt_30 (Nat.le_of_ble_eq_true rfl)) (by decide) (by decide) xti_30 (z_X11_wouldSet_1 p0.toInt p1.toInt p2.toInt x11.toInt x13.toInt x2.toInt x9.toInt t1 c4 t8 t12 t14 (xr p0) (xr p1) (xr p2) (xr x11) (xr x13) (xr x2) (xr x9)) dX11_wouldSet_43 (fun f15 H locs hu16 hT hS => ?_)
    have hT : TW E K F (tl, [0, z1, z2, z3, z4, z5, z6, z7, z8, z9, z10, z11, z12, z13, z14, z15, z16, z17, z18, z19, z20], [f15, ar1, ar2, ar3, ar4, ar5, ar6, ar7, ar8, ar9, ar10]) [] H := hT
    refine lv_aload_n hx hb dX11_wouldSet_44 rfl (lv_at hl 1 rfl) ?_
    refine x_cl0 (x_runV (b := a) (As := []) (rest := []) S (c_X11_wouldTell l E K F tl 0 z1 z2 z3 z4 z5 z6 z7 z8 z9 z10 z11 z12 z13 z14 z15 z16 z17 z18 z19 z20 f15 ar1 ar2 ar3 ar4 ar5 ar6 ar7 ar8 ar9 ar10 a ha hR) mv_X11_wouldTell km_X11_389 rfl rfl ⟨Nat.le_of_ble_eq_true rfl, Nat.le_of_ble_eq_true rfl⟩ (rc_13 hK hT ha) hK (fun _ => XP.blind) (fun U hU hW => XP.at hK hz hS hT hU hW) rfl hl.1 (Nat.le_of_ble_eq_true rfl) dX11_wouldSet_45 ⟨Nat.le_of_ble_eq_true rfl, Nat.le_of_ble_eq_true rfl⟩) hS ?_
    rintro _ ⟨u17, u18, u19, u20, f21, f22, f23, f24⟩ H locs ⟨x25, rfl⟩ hT hS
    have hT : TW E K F (tl, [0, z1, z2, u17, u18, z5, z6, z7, z8, z9, z10, z11, z12, z13, u19, u20, z16, z17, z18, z19, z20], [f21, ar1, f22, f23, f24, ar5, ar6, ar7, ar8, ar9, ar10]) [] H := hT
    exact x_ri hx hb hr hlk hQ (Nat.le_of_ble_eq_true rfl) (Nat.le_of_ble_eq_true rfl) hS dX11_wouldSet_48 (0, u17, u18, u19, u20, f21, f22, f23, f24) ⟨_, rfl⟩ hT.nil
  · refine lv_iload hx hb dX11_wouldSet_21 (lv_at hl 0 rfl) ?_
    exact x_ri hx hb hr hlk hQ (Nat.le_of_ble_eq_true rfl) (Nat.le_of_ble_eq_true rfl) hS dX11_wouldSet_23 (0, z3, z4, z14, z15, ar0, ar2, ar3, ar4) ⟨_, rfl⟩ hT.nil

theorem z_X11_leansOn_1 (a0 : Int) (h0 : (0 : Int) ≤ a0) (r0 : -2147483648 ≤ a0 ∧ a0 < 2147483648) : ¬ (2147483648 - a0 < ((0 : Nat) : Int)) := by omega
theorem z_X11_leansOn_2 (a0 : Int) (h0 : a0 = 0 ∨ a0 = 1) (r0 : -2147483648 ≤ a0 ∧ a0 < 2147483648) : a0 = 0 ∨ a0 = 1 := by omega
theorem z_X11_leansOn_3 (a0 : Int) (a1 : Int) (a2 : Nat) (h0 : (0 : Int) ≤ a1) (h1 : 2147483648 - a1 < ((a2 + 1 : Nat) : Int)) (h2 : ¬ ((12 : Int) ≤ a1)) (h3 : a0 = a1 + 1 ∨ a1 + 1 < -2147483648 ∨ 2147483648 ≤ a1 + 1) (r0 : -2147483648 ≤ a0 ∧ a0 < 2147483648) (r1 : -2147483648 ≤ a1 ∧ a1 < 2147483648) : (0 : Int) ≤ a0 := by first | (clear h0 h1 h2; omega) | omega
theorem z_X11_leansOn_4 (a0 : Int) (a1 : Int) (a2 : Nat) (h0 : (0 : Int) ≤ a1) (h1 : 2147483648 - a1 < ((a2 + 1 : Nat) : Int)) (h2 : ¬ ((12 : Int) ≤ a1)) (h3 : a0 = a1 + 1 ∨ a1 + 1 < -2147483648 ∨ 2147483648 ≤ a1 + 1) (r0 : -2147483648 ≤ a0 ∧ a0 < 2147483648) (r1 : -2147483648 ≤ a1 ∧ a1 < 2147483648) : 2147483648 - a0 < ((a2 : Nat) : Int) := by first | (clear h0 h2; omega) | omega
theorem z_X11_leansOn_5 (a0 : Int) (a1 : Int) (a2 : Nat) (a3 : Int) (h0 : (0 : Int) ≤ a0) (h1 : 2147483648 - a0 < ((a2 + 1 : Nat) : Int)) (h2 : ¬ ((12 : Int) ≤ a0)) (h3 : a1 = 0 ∨ (a1 = 1 ∧ 0 ≤ a0 ∧ a0 ≤ 11 ∧ 0 ≤ a3)) (h4 : a1 = 0 ∨ a1 = 1) (h5 : ¬ (a1 = 0)) (r0 : -2147483648 ≤ a0 ∧ a0 < 2147483648) (r1 : -2147483648 ≤ a1 ∧ a1 < 2147483648) : 0 ≤ a0 ∧ a0 ≤ 11 := by first | (clear h4 h5; omega) | omega
theorem z_X11_leansOn_6 (a0 : Int) (a1 : Int) (a2 : Int) (a3 : Nat) (a4 : Int) (h0 : (0 : Int) ≤ a0) (h1 : 2147483648 - a0 < ((a3 + 1 : Nat) : Int)) (h2 : ¬ ((12 : Int) ≤ a0)) (h3 : a1 = 0 ∨ (a1 = 1 ∧ 0 ≤ a0 ∧ a0 ≤ 11 ∧ 0 ≤ a4)) (h4 : a1 = 0 ∨ a1 = 1) (h5 : ¬ (a1 = 0)) (h6 : a2 = a4) (r0 : -2147483648 ≤ a0 ∧ a0 < 2147483648) (r1 : -2147483648 ≤ a1 ∧ a1 < 2147483648) (r2 : -2147483648 ≤ a2 ∧ a2 < 2147483648) : 0 ≤ a0 ∧ a0 ≤ 11 := by first | (clear h4 h5 h6; omega) | omega
theorem z_X11_leansOn_7 (a0 : Int) (a1 : Int) (a2 : Int) (a3 : Nat) (a4 : Int) (a5 : Int) (a6 : Int) (a7 : Int) (h0 : (0 : Int) ≤ a0) (h1 : 2147483648 - a0 < ((a3 + 1 : Nat) : Int)) (h2 : ¬ ((12 : Int) ≤ a0)) (h3 : a1 = 0 ∨ (a1 = 1 ∧ 0 ≤ a0 ∧ a0 ≤ 11 ∧ 0 ≤ a4)) (h4 : a1 = 0 ∨ a1 = 1) (h5 : ¬ (a1 = 0)) (h6 : a2 = a4) (h7 : (-1 ≤ a4 ∧ a4 ≤ 5) ∧ (0 ≤ a5 ∧ a5 ≤ 2) ∧ (0 ≤ a6 ∧ a6 ≤ 2) ∧ (-1 ≤ a7 ∧ a7 ≤ 2) ∧ (a4 = 1 ∨ a4 = 3 ∨ a4 = 4 → 0 ≤ a7)) (h8 : ¬ (a2 ≠ (1 : Int))) (r0 : -2147483648 ≤ a0 ∧ a0 < 2147483648) (r1 : -2147483648 ≤ a1 ∧ a1 < 2147483648) (r2 : -2147483648 ≤ a2 ∧ a2 < 2147483648) : 0 ≤ a0 ∧ a0 ≤ 11 := by first | (clear h4 h5 h6 h7 h8; omega) | (clear h8; omega) | omega
theorem z_X11_leansOn_8 (a0 : Int) (a1 : Int) (a2 : Int) (a3 : Int) (a4 : Int) (a5 : Nat) (a6 : Int) (a7 : Int) (a8 : Int) (a9 : Int) (h0 : (0 : Int) ≤ a1) (h1 : 2147483648 - a1 < ((a5 + 1 : Nat) : Int)) (h2 : ¬ ((12 : Int) ≤ a1)) (h3 : a2 = 0 ∨ (a2 = 1 ∧ 0 ≤ a1 ∧ a1 ≤ 11 ∧ 0 ≤ a6)) (h4 : a2 = 0 ∨ a2 = 1) (h5 : ¬ (a2 = 0)) (h6 : a3 = a6) (h7 : (-1 ≤ a6 ∧ a6 ≤ 5) ∧ (0 ≤ a7 ∧ a7 ≤ 2) ∧ (0 ≤ a8 ∧ a8 ≤ 2) ∧ (-1 ≤ a9 ∧ a9 ≤ 2) ∧ (a6 = 1 ∨ a6 = 3 ∨ a6 = 4 → 0 ≤ a9)) (h8 : ¬ (a3 ≠ (1 : Int))) (h9 : a4 = a9) (h10 : ¬ (a4 ≠ a0)) (r0 : -2147483648 ≤ a0 ∧ a0 < 2147483648) (r1 : -2147483648 ≤ a1 ∧ a1 < 2147483648) (r2 : -2147483648 ≤ a2 ∧ a2 < 2147483648) (r3 : -2147483648 ≤ a3 ∧ a3 < 2147483648) (r4 : -2147483648 ≤ a4 ∧ a4 < 2147483648) : 0 ≤ a1 ∧ a1 ≤ 11 := by first | (clear h4 h5 h6 h7 h8 h9 h10; omega) | (clear h8 h9 h10; omega) | (clear h10; omega) | omega
theorem z_X11_leansOn_9 (a0 : Int) (a1 : Int) (a2 : Int) (a3 : Int) (a4 : Int) (a5 : Int) (a6 : Int) (a7 : Int) (a8 : Int) (a9 : Int) (a10 : Nat) (a11 : Int) (a12 : Int) (a13 : Int) (a14 : Int) (h0 : 0 ≤ a0 ∧ a0 ≤ 2) (h1 : 0 ≤ a1 ∧ a1 ≤ 29) (h2 : (0 : Int) ≤ a3) (h3 : 2147483648 - a3 < ((a10 + 1 : Nat) : Int)) (h4 : ¬ ((12 : Int) ≤ a3)) (h5 : a4 = 0 ∨ (a4 = 1 ∧ 0 ≤ a3 ∧ a3 ≤ 11 ∧ 0 ≤ a11)) (h6 : a4 = 0 ∨ a4 = 1) (h7 : ¬ (a4 = 0)) (h8 : a5 = a11) (h9 : (-1 ≤ a11 ∧ a11 ≤ 5) ∧ (0 ≤ a12 ∧ a12 ≤ 2) ∧ (0 ≤ a13 ∧ a13 ≤ 2) ∧ (-1 ≤ a14 ∧ a14 ≤ 2) ∧ (a11 = 1 ∨ a11 = 3 ∨ a11 = 4 → 0 ≤ a14)) (h10 : ¬ (a5 ≠ (1 : Int))) (h11 : a6 = a14) (h12 : ¬ (a6 ≠ a2)) (h13 : a7 = a12) (h14 : ¬ (a7 ≠ a0)) (h15 : 0 ≤ a0 ∧ a0 ≤ 2 ∧ 0 ≤ a1 ∧ a1 ≤ 29 → a8 = 4 * (30 * a0 + a1)) (h16 : a9 = a8 + (1 : Int) ∨ a8 + (1 : Int) < -2147483648 ∨ 2147483648 ≤ a8 + (1 : Int)) (r0 : -2147483648 ≤ a0 ∧ a0 < 2147483648) (r1 : -2147483648 ≤ a1 ∧ a1 < 2147483648) (r2 : -2147483648 ≤ a2 ∧ a2 < 2147483648) (r3 : -2147483648 ≤ a3 ∧ a3 < 2147483648) (r4 : -2147483648 ≤ a4 ∧ a4 < 2147483648) (r5 : -2147483648 ≤ a5 ∧ a5 < 2147483648) (r6 : -2147483648 ≤ a6 ∧ a6 < 2147483648) (r7 : -2147483648 ≤ a7 ∧ a7 < 2147483648) (r8 : -2147483648 ≤ a8 ∧ a8 < 2147483648) (r9 : -2147483648 ≤ a9 ∧ a9 < 2147483648) : 0 ≤ a3 ∧ a3 ≤ 11 := by first | (clear h0 h1 h6 h7 h8 h9 h10 h11 h12 h13 h14 h15 h16; omega) | (clear h0 h1 h10 h11 h12 h13 h14 h15 h16; omega) | (clear h0 h1 h12 h14 h15 h16; omega) | (clear h0 h1 h15 h16; omega) | (clear h1 h16; omega) | omega
theorem z_X11_leansOn_10 (a0 : Int) (a1 : Int) (a2 : Int) (a3 : Int) (a4 : Int) (a5 : Int) (a6 : Int) (a7 : Int) (a8 : Int) (a9 : Int) (a10 : Int) (a11 : Int) (a12 : Nat) (a13 : Int) (a14 : Int) (a15 : Int) (a16 : Int) (h0 : 0 ≤ a0 ∧ a0 ≤ 2) (h1 : 0 ≤ a1 ∧ a1 ≤ 29) (h2 : (0 : Int) ≤ a3) (h3 : 2147483648 - a3 < ((a12 + 1 : Nat) : Int)) (h4 : ¬ ((12 : Int) ≤ a3)) (h5 : a4 = 0 ∨ (a4 = 1 ∧ 0 ≤ a3 ∧ a3 ≤ 11 ∧ 0 ≤ a13)) (h6 : a4 = 0 ∨ a4 = 1) (h7 : ¬ (a4 = 0)) (h8 : a5 = a13) (h9 : (-1 ≤ a13 ∧ a13 ≤ 5) ∧ (0 ≤ a14 ∧ a14 ≤ 2) ∧ (0 ≤ a15 ∧ a15 ≤ 2) ∧ (-1 ≤ a16 ∧ a16 ≤ 2) ∧ (a13 = 1 ∨ a13 = 3 ∨ a13 = 4 → 0 ≤ a16)) (h10 : ¬ (a5 ≠ (1 : Int))) (h11 : a6 = a16) (h12 : ¬ (a6 ≠ a2)) (h13 : a7 = a14) (h14 : ¬ (a7 ≠ a0)) (h15 : 0 ≤ a0 ∧ a0 ≤ 2 ∧ 0 ≤ a1 ∧ a1 ≤ 29 → a8 = 4 * (30 * a0 + a1)) (h16 : a9 = a8 + (1 : Int) ∨ a8 + (1 : Int) < -2147483648 ∨ 2147483648 ≤ a8 + (1 : Int)) (h17 : a10 = a15) (h18 : a11 = a9 + a10 ∨ a9 + a10 < -2147483648 ∨ 2147483648 ≤ a9 + a10) (r0 : -2147483648 ≤ a0 ∧ a0 < 2147483648) (r1 : -2147483648 ≤ a1 ∧ a1 < 2147483648) (r2 : -2147483648 ≤ a2 ∧ a2 < 2147483648) (r3 : -2147483648 ≤ a3 ∧ a3 < 2147483648) (r4 : -2147483648 ≤ a4 ∧ a4 < 2147483648) (r5 : -2147483648 ≤ a5 ∧ a5 < 2147483648) (r6 : -2147483648 ≤ a6 ∧ a6 < 2147483648) (r7 : -2147483648 ≤ a7 ∧ a7 < 2147483648) (r8 : -2147483648 ≤ a8 ∧ a8 < 2147483648) (r9 : -2147483648 ≤ a9 ∧ a9 < 2147483648) (r10 : -2147483648 ≤ a10 ∧ a10 < 2147483648) (r11 : -2147483648 ≤ a11 ∧ a11 < 2147483648) : 0 ≤ a11 ∧ a11 < ((360 : Nat) : Int) := by first | (clear h0 h1 h2 h3 h4 h5 h6 h7 h8 h9 h10 h11 h12 h13 h14 h15 h16 h17; omega) | (clear h0 h1 h2 h3 h4 h5 h6 h7 h8 h9 h10 h11 h12 h13 h14 h15; omega) | (clear h0 h1 h2 h3 h4 h5 h6 h7 h8 h10 h11 h12 h13 h14; omega) | (clear h2 h3 h4 h6 h7 h10 h12; omega) | omega
abbrev rm_X11_leansOn : Room := { frames := 3, cells := 0, slots := 0, locals := 67 }
set_option maxHeartbeats 4000000 in
set_option maxRecDepth 100000 in
theorem c_X11_leansOn (l : Launch) (E : XE) (K : Nat → Nat) (F : Nat → Nat → Nat) (tl z0 z1 z2 z3 z4 z5 z6 z7 z8 z9 z10 z11 z12 z13 z14 z15 z16 z17 z18 z19 z20 : Int32) (ar0 ar1 ar2 ar3 ar4 ar5 ar6 ar7 ar8 ar9 ar10 : Nat → Int32) (h0 : Heap) (a : Nat) (p0 : Int32) (p1 : Int32) (p2 : Int32) (p3 : Int32) (ha : K a = 13) (hR : RV ar1) (e0 : 0 ≤ p0.toInt ∧ p0.toInt ≤ 2) (e1 : 0 ≤ p1.toInt ∧ p1.toInt ≤ 29) : Met l yX11_leansOn (xw yX11_leansOn cX11_leansOn 7 (some .boolean)) rm_X11_leansOn (va_Pc [.ref a, .int p0, .int p1, .int p2, .int p3] (XPh E K F (tl, [z0, z1, z2, z3, z4, z5, z6, z7, z8, z9, z10, z11, z12, z13, z14, z15, z16, z17, z18, z19, z20], [ar0, ar1, ar2, ar3, ar4, ar5, ar6, ar7, ar8, ar9, ar10]) h0)) (XQ E (fun v (u : Unit) => ∃ r : Int32, v = .int r ∧ (r = 0 ∨ r = 1)) (fun _ H => H = h0)) 0 0 (xA E) := by
  refine x_enter (by decide) (Nat.le_of_ble_eq_true rfl) ?_
  intro p e s m args below meth c Q S hr hlk hnm hQ hP ls hl
  obtain ⟨⟨hz, hK, hT⟩, hh⟩ := hP
  obtain ⟨hx, hb, -, -, -⟩ := id S
  have hS : va_S (xA E) s.heap s.heap [] := va_S.rf
  have hl : lv_has ls 7 [(0, .ref a), (1, .int p0), (2, .int p1), (3, .int p2), (4, .int p3)] := hl
  refine lv_iconst (v := 0) hx hb dX11_leansOn_0 (by decide) ?_
  refine lv_istore (lv' := [(5, .int 0), (0, .ref a), (1, .int p0), (2, .int p1), (3, .int p2), (4, .int p3)]) hx hb dX11_leansOn_1 hl (by decide) rfl (fun ls hl => ?_)
  refine lv_iconst (v := 0) hx hb dX11_leansOn_3 (by decide) ?_
  refine lv_istore (lv' := [(6, .int 0), (5, .int 0), (0, .ref a), (1, .int p0), (2, .int p1), (3, .int p2), (4, .int p3)]) hx hb dX11_leansOn_4 hl (by decide) rfl (fun ls hl => ?_)
  have L6 : ∀ (N3 : Nat) (x1 : Int32) (x2 : Int32) (locs : List Loc) (ls : Array Slot), x1.toInt = 0 ∨ x1.toInt = 1 → (0 : Int) ≤ x2.toInt → 2147483648 - x2.toInt < ((N3 : Nat) : Int) → TW E K F (tl, [z0, z1, z2, z3, z4, z5, z6, z7, z8, z9, z10, z11, z12, z13, z14, z15, z16, z17, z18, z19, z20], [ar0, ar1, ar2, ar3, ar4, ar5, ar6, ar7, ar8, ar9, ar10]) [] s.heap → va_S (xA E) s.heap s.heap locs → lv_has ls 7 [(0, .ref a), (1, .int p0), (2, .int p1), (3, .int p2), (4, .int p3), (5, .int x1), (6, .int x2)] → W p l e rm_X11_leansOn s m args below meth c s.heap locs 0 0 Q (F0 m 6 ls []) := by
    intro N3
    induction N3 with
    | zero =>
      intro x1 x2 locs ls hf4 hf5 hm6
      exact absurd hm6 (z_X11_leansOn_1 x2.toInt hf5 (xr x2))
    | succ N3 ih7 =>
      intro x1 x2 locs ls hf4 hf5 hm6 hT hS hl
      refine lv_iload hx hb dX11_leansOn_6 (lv_at hl 6 rfl) ?_
      refine lv_bipush (v := 12) hx hb dX11_leansOn_8 (by decide) ?_
      refine xi_cge (tgt := 98) hx hb (rfl : Int32.toInt x2 = x2.toInt) ((by decide) : Int32.toInt 12 = (12 : Int)) dX11_leansOn_10 (by decide) (fun c8 => ?_) (fun c8 => ?_)
      · refine lv_iload hx hb dX11_leansOn_98 (lv_at hl 5 rfl) ?_
        refine xi_zeq (tgt := 116) hx hb (rfl : Int32.toInt x1 = x1.toInt) dX11_leansOn_100 (by decide) (fun c9 => ?_) (fun c9 => ?_)
        · refine lv_iconst (v := 0) hx hb dX11_leansOn_116 (by decide) ?_
          exact x_rz hx hb hr (xnz (Or.inl rfl)) hlk hQ (Nat.le_of_ble_eq_true rfl) (Nat.le_of_ble_eq_true rfl) hS dX11_leansOn_117 () ⟨_, rfl, (Or.inl rfl)⟩ hh
        · refine lv_aload_n hx hb dX11_leansOn_103 rfl (lv_at hl 0 rfl) ?_
          refine lv_iload_n hx hb dX11_leansOn_104 rfl (lv_at hl 1 rfl) ?_
          refine lv_iload_n hx hb dX11_leansOn_105 rfl (lv_at hl 2 rfl) ?_
          refine x_clp (x_runV (b := a) (As := [.int p0, .int p1]) (rest := []) S (c_X11_isRow l E K F tl z0 z1 z2 z3 z4 z5 z6 z7 z8 z9 z10 z11 z12 z13 z14 z15 z16 z17 z18 z19 z20 ar0 ar1 ar2 ar3 ar4 ar5 ar6 ar7 ar8 ar9 ar10 s.heap a p0 p1 ha) mv_X11_isRow km_X11_346 rfl rfl ⟨Nat.le_of_ble_eq_true rfl, Nat.le_of_ble_eq_true rfl⟩ (rc_13 hK hT ha) hK (fun _ => XPh.blind) (fun U hU hW => XPh.at hK hz hS hT hU hW) rfl hl.1 (Nat.le_of_ble_eq_true rfl) dX11_leansOn_106 ⟨Nat.le_of_ble_eq_true rfl, Nat.le_of_ble_eq_true rfl⟩) hS ?_
          rintro _ _ locs ⟨x11, rfl, b12, t10⟩ hS
          have t10 : x11.toInt = 0 ∨ (x11.toInt = 1 ∧ 0 ≤ p0.toInt ∧ p0.toInt ≤ 2 ∧ 0 ≤ p1.toInt ∧ p1.toInt ≤ 29 ∧ (aI ar0 (4 * (30 * p0.toInt + p1.toInt))) = 1) := t10
          refine xi_zeq (tgt := 116) hx hb (rfl : Int32.toInt x11 = x11.toInt) dX11_leansOn_109 (by decide) (fun c13 => ?_) (fun c13 => ?_)
          · refine lv_iconst (v := 0) hx hb dX11_leansOn_116 (by decide) ?_
            exact x_rz hx hb hr (xnz (Or.inl rfl)) hlk hQ (Nat.le_of_ble_eq_true rfl) (Nat.le_of_ble_eq_true rfl) hS dX11_leansOn_117 () ⟨_, rfl, (Or.inl rfl)⟩ hh
          · refine lv_iconst (v := 1) hx hb dX11_leansOn_112 (by decide) ?_
            refine lv_goto (tgt := 117) hx hb dX11_leansOn_113 (by decide) ?_
            exact x_rz hx hb hr (xnz (Or.inr rfl)) hlk hQ (Nat.le_of_ble_eq_true rfl) (Nat.le_of_ble_eq_true rfl) hS dX11_leansOn_117 () ⟨_, rfl, (Or.inr rfl)⟩ hh
      · refine lv_iload hx hb dX11_leansOn_13 (lv_at hl 5 rfl) ?_
        have J90 : ∀ (x14 : Int32) (locs : List Loc) (ls : Array Slot), x14.toInt = 0 ∨ x14.toInt = 1 → TW E K F (tl, [z0, z1, z2, z3, z4, z5, z6, z7, z8, z9, z10, z11, z12, z13, z14, z15, z16, z17, z18, z19, z20], [ar0, ar1, ar2, ar3, ar4, ar5, ar6, ar7, ar8, ar9, ar10]) [] s.heap → va_S (xA E) s.heap s.heap locs → lv_has ls 7 [(0, .ref a), (1, .int p0), (2, .int p1), (3, .int p2), (4, .int p3), (6, .int x2)] → W p l e rm_X11_leansOn s m args below meth c s.heap locs 0 0 Q (F0 m 90 ls [.int x14]) := by
          intro x14 locs ls hf15 hT hS hl
          refine lv_istore (lv' := [(5, .int x14), (0, .ref a), (1, .int p0), (2, .int p1), (3, .int p2), (4, .int p3), (6, .int x2)]) hx hb dX11_leansOn_90 hl (by decide) rfl (fun ls hl => ?_)
          refine xi_iinc (n := 1) (lv' := fun z9 => [(6, .int z9), (5, .int x14), (0, .ref a), (1, .int p0), (2, .int p1), (3, .int p2), (4, .int p3)]) (k := 6) hx hb (rfl : Int32.toInt x2 = x2.toInt) (by decide) dX11_leansOn_92 hl rfl (by decide) (fun _ => rfl) (fun x16 ls t17 hl => ?_)
          have hl : lv_has ls 7 [(6, .int x16), (5, .int x14), (0, .ref a), (1, .int p0), (2, .int p1), (3, .int p2), (4, .int p3)] := hl
          refine lv_goto (tgt := 6) hx hb dX11_leansOn_95 (by decide) ?_
          exact ih7 x14 x16 _ _ (z_X11_leansOn_2 x14.toInt hf15 (xr x14)) (z_X11_leansOn_3 x16.toInt x2.toInt N3 hf5 hm6 c8 t17 (xr x16) (xr x2)) (z_X11_leansOn_4 x16.toInt x2.toInt N3 hf5 hm6 c8 t17 (xr x16) (xr x2)) hT.nil hS (lv_sub hl [2, 3, 4, 5, 6, 1, 0] rfl)
        have J85 : ∀ (locs : List Loc) (ls : Array Slot), TW E K F (tl, [z0, z1, z2, z3, z4, z5, z6, z7, z8, z9, z10, z11, z12, z13, z14, z15, z16, z17, z18, z19, z20], [ar0, ar1, ar2, ar3, ar4, ar5, ar6, ar7, ar8, ar9, ar10]) [] s.heap → va_S (xA E) s.heap s.heap locs → lv_has ls 7 [(0, .ref a), (1, .int p0), (2, .int p1), (3, .int p2), (4, .int p3), (6, .int x2)] → W p l e rm_X11_leansOn s m args below meth c s.heap locs 0 0 Q (F0 m 85 ls []) := by
          intro locs ls hT hS hl
          refine lv_iconst (v := 1) hx hb dX11_leansOn_85 (by decide) ?_
          refine lv_goto (tgt := 90) hx hb dX11_leansOn_86 (by decide) ?_
          exact J90 1 _ _ (by decide) hT.nil hS (lv_sub hl [0, 1, 2, 3, 4, 5] rfl)
        refine xi_zne (tgt := 85) hx hb (rfl : Int32.toInt x1 = x1.toInt) dX11_leansOn_15 (by decide) (fun c18 => ?_) (fun c18 => ?_)
        · exact J85 _ _ hT.nil hS (lv_sub hl [0, 1, 2, 3, 4, 6] rfl)
        · refine lv_aload_n hx hb dX11_leansOn_18 rfl (lv_at hl 0 rfl) ?_
          refine lv_iload hx hb dX11_leansOn_19 (lv_at hl 6 rfl) ?_
          refine x_clp (x_runV (b := a) (As := [.int x2]) (rest := []) S (c_X11_isRule l E K F tl z0 z1 z2 z3 z4 z5 z6 z7 z8 z9 z10 z11 z12 z13 z14 z15 z16 z17 z18 z19 z20 ar0 ar1 ar2 ar3 ar4 ar5 ar6 ar7 ar8 ar9 ar10 s.heap a x2 ha hR) mv_X11_isRule km_X11_162 rfl rfl ⟨Nat.le_of_ble_eq_true rfl, Nat.le_of_ble_eq_true rfl⟩ (rc_13 hK hT ha) hK (fun _ => XPh.blind) (fun U hU hW => XPh.at hK hz hS hT hU hW) rfl hl.1 (Nat.le_of_ble_eq_true rfl) dX11_leansOn_21 ⟨Nat.le_of_ble_eq_true rfl, Nat.le_of_ble_eq_true rfl⟩) hS ?_
          rintro _ _ locs ⟨x20, rfl, b21, t19⟩ hS
          have t19 : x20.toInt = 0 ∨ (x20.toInt = 1 ∧ 0 ≤ x2.toInt ∧ x2.toInt ≤ 11 ∧ 0 ≤ (aI ar1 (10 * x2.toInt + (0 : Int)))) := t19
          have J89 : ∀ (locs : List Loc) (ls : Array Slot), TW E K F (tl, [z0, z1, z2, z3, z4, z5, z6, z7, z8, z9, z10, z11, z12, z13, z14, z15, z16, z17, z18, z19, z20], [ar0, ar1, ar2, ar3, ar4, ar5, ar6, ar7, ar8, ar9, ar10]) [] s.heap → va_S (xA E) s.heap s.heap locs → lv_has ls 7 [(0, .ref a), (1, .int p0), (2, .int p1), (3, .int p2), (4, .int p3), (6, .int x2)] → W p l e rm_X11_leansOn s m args below meth c s.heap locs 0 0 Q (F0 m 89 ls []) := by
            intro locs ls hT hS hl
            refine lv_iconst (v := 0) hx hb dX11_leansOn_89 (by decide) ?_
            exact J90 0 _ _ (by decide) hT.nil hS (lv_sub hl [0, 1, 2, 3, 4, 5] rfl)
          refine xi_zeq (tgt := 89) hx hb (rfl : Int32.toInt x20 = x20.toInt) dX11_leansOn_24 (by decide) (fun c22 => ?_) (fun c22 => ?_)
          · exact J89 _ _ hT.nil hS (lv_sub hl [0, 1, 2, 3, 4, 6] rfl)
          · refine lv_aload_n hx hb dX11_leansOn_27 rfl (lv_at hl 0 rfl) ?_
            refine lv_iload hx hb dX11_leansOn_28 (lv_at hl 6 rfl) ?_
            refine lv_iconst (v := 0) hx hb dX11_leansOn_30 (by decide) ?_
            refine x_clp (x_runV (b := a) (As := [.int x2, .int 0]) (rest := []) S (c_X11_of l E K F tl z0 z1 z2 z3 z4 z5 z6 z7 z8 z9 z10 z11 z12 z13 z14 z15 z16 z17 z18 z19 z20 ar0 ar1 ar2 ar3 ar4 ar5 ar6 ar7 ar8 ar9 ar10 s.heap a x2 0 ha (z_X11_leansOn_5 x2.toInt x20.toInt N3 (aI ar1 (10 * x2.toInt + (0 : Int))) hf5 hm6 c8 t19 (xbz b21) c22 (xr x2) (xr x20)) (by decide)) mv_X11_of km_X11_165 rfl rfl ⟨Nat.le_of_ble_eq_true rfl, Nat.le_of_ble_eq_true rfl⟩ (rc_13 hK hT ha) hK (fun _ => XPh.blind) (fun U hU hW => XPh.at hK hz hS hT hU hW) rfl hl.1 (Nat.le_of_ble_eq_true rfl) dX11_leansOn_31 ⟨Nat.le_of_ble_eq_true rfl, Nat.le_of_ble_eq_true rfl⟩) hS ?_
            rintro _ _ locs ⟨x24, rfl, t23⟩ hS
            have t23 : x24.toInt = (aI ar1 (10 * x2.toInt + (0 : Int))) := t23
            have v26 : (-1 ≤ (aI ar1 (10 * x2.toInt + (0 : Int))) ∧ (aI ar1 (10 * x2.toInt + (0 : Int))) ≤ 5) ∧ (0 ≤ (aI ar1 (10 * x2.toInt + (1 : Int))) ∧ (aI ar1 (10 * x2.toInt + (1 : Int))) ≤ 2) ∧ (0 ≤ (aI ar1 (10 * x2.toInt + (2 : Int))) ∧ (aI ar1 (10 * x2.toInt + (2 : Int))) ≤ 2) ∧ (-1 ≤ (aI ar1 (10 * x2.toInt + (3 : Int))) ∧ (aI ar1 (10 * x2.toInt + (3 : Int))) ≤ 2) ∧ ((aI ar1 (10 * x2.toInt + (0 : Int))) = 1 ∨ (aI ar1 (10 * x2.toInt + (0 : Int))) = 3 ∨ (aI ar1 (10 * x2.toInt + (0 : Int))) = 4 → 0 ≤ (aI ar1 (10 * x2.toInt + (3 : Int)))) := RV.row hR (z_X11_leansOn_6 x2.toInt x20.toInt x24.toInt N3 (aI ar1 (10 * x2.toInt + (0 : Int))) hf5 hm6 c8 t19 (xbz b21) c22 t23 (xr x2) (xr x20) (xr x24))
            refine lv_iconst (v := 1) hx hb dX11_leansOn_34 (by decide) ?_
            refine xi_cne (tgt := 89) hx hb (rfl : Int32.toInt x24 = x24.toInt) ((by decide) : Int32.toInt 1 = (1 : Int)) dX11_leansOn_35 (by decide) (fun c27 => ?_) (fun c27 => ?_)
            · exact J89 _ _ hT.nil hS (lv_sub hl [0, 1, 2, 3, 4, 6] rfl)
            · refine lv_aload_n hx hb dX11_leansOn_38 rfl (lv_at hl 0 rfl) ?_
              refine lv_iload hx hb dX11_leansOn_39 (lv_at hl 6 rfl) ?_
              refine lv_iconst (v := 3) hx hb dX11_leansOn_41 (by decide) ?_
              refine x_clp (x_runV (b := a) (As := [.int x2, .int 3]) (rest := []) S (c_X11_of l E K F tl z0 z1 z2 z3 z4 z5 z6 z7 z8 z9 z10 z11 z12 z13 z14 z15 z16 z17 z18 z19 z20 ar0 ar1 ar2 ar3 ar4 ar5 ar6 ar7 ar8 ar9 ar10 s.heap a x2 3 ha (z_X11_leansOn_7 x2.toInt x20.toInt x24.toInt N3 (aI ar1 (10 * x2.toInt + (0 : Int))) (aI ar1 (10 * x2.toInt + (1 : Int))) (aI ar1 (10 * x2.toInt + (2 : Int))) (aI ar1 (10 * x2.toInt + (3 : Int))) hf5 hm6 c8 t19 (xbz b21) c22 t23 v26 c27 (xr x2) (xr x20) (xr x24)) (by decide)) mv_X11_of km_X11_165 rfl rfl ⟨Nat.le_of_ble_eq_true rfl, Nat.le_of_ble_eq_true rfl⟩ (rc_13 hK hT ha) hK (fun _ => XPh.blind) (fun U hU hW => XPh.at hK hz hS hT hU hW) rfl hl.1 (Nat.le_of_ble_eq_true rfl) dX11_leansOn_42 ⟨Nat.le_of_ble_eq_true rfl, Nat.le_of_ble_eq_true rfl⟩) hS ?_
              rintro _ _ locs ⟨x29, rfl, t28⟩ hS
              have t28 : x29.toInt = (aI ar1 (10 * x2.toInt + (3 : Int))) := t28
              refine lv_iload_n hx hb dX11_leansOn_45 rfl (lv_at hl 3 rfl) ?_
              refine xi_cne (tgt := 89) hx hb (rfl : Int32.toInt x29 = x29.toInt) (rfl : Int32.toInt p2 = p2.toInt) dX11_leansOn_46 (by decide) (fun c31 => ?_) (fun c31 => ?_)
              · exact J89 _ _ hT.nil hS (lv_sub hl [0, 1, 2, 3, 4, 6] rfl)
              · refine lv_aload_n hx hb dX11_leansOn_49 rfl (lv_at hl 0 rfl) ?_
                refine lv_iload hx hb dX11_leansOn_50 (lv_at hl 6 rfl) ?_
                refine lv_iconst (v := 1) hx hb dX11_leansOn_52 (by decide) ?_
                refine x_clp (x_runV (b := a) (As := [.int x2, .int 1]) (rest := []) S (c_X11_of l E K F tl z0 z1 z2 z3 z4 z5 z6 z7 z8 z9 z10 z11 z12 z13 z14 z15 z16 z17 z18 z19 z20 ar0 ar1 ar2 ar3 ar4 ar5 ar6 ar7 ar8 ar9 ar10 s.heap a x2 1 ha (z_X11_leansOn_8 p2.toInt x2.toInt x20.toInt x24.toInt x29.toInt N3 (aI ar1 (10 * x2.toInt + (0 : Int))) (aI ar1 (10 * x2.toInt + (1 : Int))) (aI ar1 (10 * x2.toInt + (2 : Int))) (aI ar1 (10 * x2.toInt + (3 : Int))) hf5 hm6 c8 t19 (xbz b21) c22 t23 v26 c27 t28 c31 (xr p2) (xr x2) (xr x20) (xr x24) (xr x29)) (by decide)) mv_X11_of km_X11_165 rfl rfl ⟨Nat.le_of_ble_eq_true rfl, Nat.le_of_ble_eq_true rfl⟩ (rc_13 hK hT ha) hK (fun _ => XPh.blind) (fun U hU hW => XPh.at hK hz hS hT hU hW) rfl hl.1 (Nat.le_of_ble_eq_true rfl) dX11_leansOn_53 ⟨Nat.le_of_ble_eq_true rfl, Nat.le_of_ble_eq_true rfl⟩) hS ?_
                rintro _ _ locs ⟨x33, rfl, t32⟩ hS
                have t32 : x33.toInt = (aI ar1 (10 * x2.toInt + (1 : Int))) := t32
                refine lv_iload_n hx hb dX11_leansOn_56 rfl (lv_at hl 1 rfl) ?_
                refine xi_cne (tgt := 89) hx hb (rfl : Int32.toInt x33 = x33.toInt) (rfl : Int32.toInt p0 = p0.toInt) dX11_leansOn_57 (by decide) (fun c35 => ?_) (fun c35 => ?_)
                · exact J89 _ _ hT.nil hS (lv_sub hl [0, 1, 2, 3, 4, 6] rfl)
                · refine lv_aload_n hx hb dX11_leansOn_60 rfl (lv_at hl 0 rfl) ?_
                  refine gX11_1 S hK hT ha kf_X11_9 dX11_leansOn_61 (fun hk36 => ?_)
                  refine lv_iload_n hx hb dX11_leansOn_64 rfl (lv_at hl 1 rfl) ?_
                  refine lv_iload_n hx hb dX11_leansOn_65 rfl (lv_at hl 2 rfl) ?_
                  refine x_clp (x_runS (As := [.int p0, .int p1]) (rest := [.ref (F a 1)]) S (c_X11_at l E K F tl z0 z1 z2 z3 z4 z5 z6 z7 z8 z9 z10 z11 z12 z13 z14 z15 z16 z17 z18 z19 z20 ar0 ar1 ar2 ar3 ar4 ar5 ar6 ar7 ar8 ar9 ar10 s.heap p0 p1) ms_X11_at km_X11_156 rfl rfl ⟨Nat.le_of_ble_eq_true rfl, Nat.le_of_ble_eq_true rfl⟩ hK (fun _ => XPh.blind) (fun U hU hW => XPh.at hK hz hS hT hU hW) rfl hl.1 (Nat.le_of_ble_eq_true rfl) dX11_leansOn_66 ⟨Nat.le_of_ble_eq_true rfl, Nat.le_of_ble_eq_true rfl⟩) hS ?_
                  rintro _ _ locs ⟨x38, rfl, t37⟩ hS
                  have t37 : 0 ≤ p0.toInt ∧ p0.toInt ≤ 2 ∧ 0 ≤ p1.toInt ∧ p1.toInt ≤ 29 → x38.toInt = 4 * (30 * p0.toInt + p1.toInt) := t37
                  refine lv_iconst (v := 1) hx hb dX11_leansOn_69 (by decide) ?_
                  refine xi_iadd hx hb (rfl : Int32.toInt x38 = x38.toInt) ((by decide) : Int32.toInt 1 = (1 : Int)) dX11_leansOn_70 (fun x40 t41 => ?_)
                  refine lv_aload_n hx hb dX11_leansOn_71 rfl (lv_at hl 0 rfl) ?_
                  refine lv_iload hx hb dX11_leansOn_72 (lv_at hl 6 rfl) ?_
                  refine lv_iconst (v := 2) hx hb dX11_leansOn_74 (by decide) ?_
                  refine x_clp (x_runV (b := a) (As := [.int x2, .int 2]) (rest := [.int x40, .ref (F a 1)]) S (c_X11_of l E K F tl z0 z1 z2 z3 z4 z5 z6 z7 z8 z9 z10 z11 z12 z13 z14 z15 z16 z17 z18 z19 z20 ar0 ar1 ar2 ar3 ar4 ar5 ar6 ar7 ar8 ar9 ar10 s.heap a x2 2 ha (z_X11_leansOn_9 p0.toInt p1.toInt p2.toInt x2.toInt x20.toInt x24.toInt x29.toInt x33.toInt x38.toInt x40.toInt N3 (aI ar1 (10 * x2.toInt + (0 : Int))) (aI ar1 (10 * x2.toInt + (1 : Int))) (aI ar1 (10 * x2.toInt + (2 : Int))) (aI ar1 (10 * x2.toInt + (3 : Int))) e0 e1 hf5 hm6 c8 t19 (xbz b21) c22 t23 v26 c27 t28 c31 t32 c35 t37 t41 (xr p0) (xr p1) (xr p2) (xr x2) (xr x20) (xr x24) (xr x29) (xr x33) (xr x38) (xr x40)) (by decide)) mv_X11_of km_X11_165 rfl rfl ⟨Nat.le_of_ble_eq_true rfl, Nat.le_of_ble_eq_true rfl⟩ (rc_13 hK hT ha) hK (fun _ => XPh.blind) (fun U hU hW => XPh.at hK hz hS hT hU hW) rfl hl.1 (Nat.le_of_ble_eq_true rfl) dX11_leansOn_75 ⟨Nat.le_of_ble_eq_true rfl, Nat.le_of_ble_eq_true rfl⟩) hS ?_
                  rintro _ _ locs ⟨x43, rfl, t42⟩ hS
                  have t42 : x43.toInt = (aI ar1 (10 * x2.toInt + (2 : Int))) := t42
                  refine xi_iadd hx hb (rfl : Int32.toInt x40 = x40.toInt) (rfl : Int32.toInt x43 = x43.toInt) dX11_leansOn_78 (fun x45 t46 => ?_)
                  refine tld_0 S hK hT hk36 (at_30 (f := ar0) rfl) (by decide) (z_X11_leansOn_10 p0.toInt p1.toInt p2.toInt x2.toInt x20.toInt x24.toInt x29.toInt x33.toInt x38.toInt x40.toInt x43.toInt x45.toInt N3 (aI ar1 (10 * x2.toInt + (0 : Int))) (aI ar1 (10 * x2.toInt + (1 : Int))) (aI ar1 (10 * x2.toInt + (2 : Int))) (aI ar1 (10 * x2.toInt + (3 : Int))) e0 e1 hf5 hm6 c8 t19 (xbz b21) c22 t23 v26 c27 t28 c31 t32 c35 t37 t41 t42 t46 (xr p0) (xr p1) (xr p2) (xr x2) (xr x20) (xr x24) (xr x29) (xr x33) (xr x38) (xr x40) (xr x43) (xr x45)) dX11_leansOn_79 (fun x47 w48 o49 => ?_)
                  refine lv_iload hx hb dX11_leansOn_80 (lv_at hl 4 rfl) ?_
                  refine xi_cne (tgt := 89) hx hb (rfl : Int32.toInt x47 = x47.toInt) (rfl : Int32.toInt p3 = p3.toInt) dX11_leansOn_82 (by decide) (fun c51 => ?_) (fun c51 => ?_)
                  · exact J89 _ _ hT.nil hS (lv_sub hl [0, 1, 2, 3, 4, 6] rfl)
                  · exact J85 _ _ hT.nil hS (lv_sub hl [0, 1, 2, 3, 4, 6] rfl)
  exact L6 4294967297 0 0 _ _ (by decide) (by decide) (by decide) hT.nil hS (lv_sub hl [2, 3, 4, 5, 6, 1, 0] rfl)

theorem z_X11_least_1 (a0 : Int) (h0 : (-99 : Int) ≤ a0) (r0 : -2147483648 ≤ a0 ∧ a0 < 2147483648) : ¬ (2147483648 - a0 < ((0 : Nat) : Int)) := by omega
theorem z_X11_least_2 (a0 : Int) (a1 : Int) (a2 : Int) (a3 : Int) (a4 : Int) (a5 : Int) (a6 : Int) (a7 : Int) (a8 : Int) (h0 : a6 = 0 ∨ (a6 = 1 ∧ 0 ≤ a0 ∧ a0 ≤ 2 ∧ 0 ≤ a1 ∧ a1 ≤ 29 ∧ a8 = 1)) (h1 : a6 = 0 ∨ a6 = 1) (h2 : ¬ (a6 = 0)) (h3 : (a7 = 1 ∧ 0 ≤ a2 ∧ a2 ≤ 2) ∨ (a7 = 0 ∧ (a2 < 0 ∨ 2 < a2))) (h4 : a7 = 0 ∨ a7 = 1) (h5 : a7 ≠ 0) (h6 : 0 ≤ a0 ∧ a0 ≤ 2 ∧ 0 ≤ a1 ∧ a1 ≤ 29 → a3 = 4 * (30 * a0 + a1)) (h7 : a4 = a3 + (1 : Int) ∨ a3 + (1 : Int) < -2147483648 ∨ 2147483648 ≤ a3 + (1 : Int)) (h8 : a5 = a4 + a2 ∨ a4 + a2 < -2147483648 ∨ 2147483648 ≤ a4 + a2) (r0 : -2147483648 ≤ a0 ∧ a0 < 2147483648) (r1 : -2147483648 ≤ a1 ∧ a1 < 2147483648) (r2 : -2147483648 ≤ a2 ∧ a2 < 2147483648) (r3 : -2147483648 ≤ a3 ∧ a3 < 2147483648) (r4 : -2147483648 ≤ a4 ∧ a4 < 2147483648) (r5 : -2147483648 ≤ a5 ∧ a5 < 2147483648) (r6 : -2147483648 ≤ a6 ∧ a6 < 2147483648) (r7 : -2147483648 ≤ a7 ∧ a7 < 2147483648) : 0 ≤ a5 ∧ a5 < ((360 : Nat) : Int) := by first | (clear h0 h1 h2 h3 h4 h5 h6 h7; omega) | (clear h0 h1 h2 h4 h5 h6; omega) | (clear h0 h1 h2; omega) | (clear h1 h2; omega) | omega
theorem z_X11_least_3 (a0 : Int) (a1 : Int) (a2 : Int) (a3 : Int) (a4 : Int) (a5 : Int) (a6 : Int) (a7 : Int) (a8 : Int) (h0 : a6 = 0 ∨ (a6 = 1 ∧ 0 ≤ a0 ∧ a0 ≤ 2 ∧ 0 ≤ a1 ∧ a1 ≤ 29 ∧ a8 = 1)) (h1 : a6 = 0 ∨ a6 = 1) (h2 : ¬ (a6 = 0)) (h3 : (a7 = 1 ∧ 0 ≤ a2 ∧ a2 ≤ 2) ∨ (a7 = 0 ∧ (a2 < 0 ∨ 2 < a2))) (h4 : a7 = 0 ∨ a7 = 1) (h5 : a7 ≠ 0) (h6 : 0 ≤ a0 ∧ a0 ≤ 2 ∧ 0 ≤ a1 ∧ a1 ≤ 29 → a3 = 4 * (30 * a0 + a1)) (h7 : a4 = a3 + (1 : Int) ∨ a3 + (1 : Int) < -2147483648 ∨ 2147483648 ≤ a3 + (1 : Int)) (h8 : a5 = a4 + a2 ∨ a4 + a2 < -2147483648 ∨ 2147483648 ≤ a4 + a2) (r0 : -2147483648 ≤ a0 ∧ a0 < 2147483648) (r1 : -2147483648 ≤ a1 ∧ a1 < 2147483648) (r2 : -2147483648 ≤ a2 ∧ a2 < 2147483648) (r3 : -2147483648 ≤ a3 ∧ a3 < 2147483648) (r4 : -2147483648 ≤ a4 ∧ a4 < 2147483648) (r5 : -2147483648 ≤ a5 ∧ a5 < 2147483648) (r6 : -2147483648 ≤ a6 ∧ a6 < 2147483648) (r7 : -2147483648 ≤ a7 ∧ a7 < 2147483648) : 0 ≤ a5 ∧ a5 < ((360 : Nat) : Int) := by first | (clear h0 h1 h2 h3 h4 h5 h6 h7; omega) | (clear h0 h1 h2 h4 h5 h6; omega) | (clear h0 h1 h2; omega) | (clear h1 h2; omega) | omega
theorem z_X11_least_4 (a0 : Int) (a1 : Int) (a2 : Int) (a3 : Int) (a4 : Int) (a5 : Int) (a6 : Int) (a7 : Int) (a8 : Int) (h0 : a6 = 0 ∨ (a6 = 1 ∧ 0 ≤ a0 ∧ a0 ≤ 2 ∧ 0 ≤ a1 ∧ a1 ≤ 29 ∧ a8 = 1)) (h1 : a6 = 0 ∨ a6 = 1) (h2 : ¬ (a6 = 0)) (h3 : (a7 = 1 ∧ 0 ≤ a2 ∧ a2 ≤ 2) ∨ (a7 = 0 ∧ (a2 < 0 ∨ 2 < a2))) (h4 : a7 = 0 ∨ a7 = 1) (h5 : a7 ≠ 0) (h6 : 0 ≤ a0 ∧ a0 ≤ 2 ∧ 0 ≤ a1 ∧ a1 ≤ 29 → a3 = 4 * (30 * a0 + a1)) (h7 : a4 = a3 + (1 : Int) ∨ a3 + (1 : Int) < -2147483648 ∨ 2147483648 ≤ a3 + (1 : Int)) (h8 : a5 = a4 + a2 ∨ a4 + a2 < -2147483648 ∨ 2147483648 ≤ a4 + a2) (r0 : -2147483648 ≤ a0 ∧ a0 < 2147483648) (r1 : -2147483648 ≤ a1 ∧ a1 < 2147483648) (r2 : -2147483648 ≤ a2 ∧ a2 < 2147483648) (r3 : -2147483648 ≤ a3 ∧ a3 < 2147483648) (r4 : -2147483648 ≤ a4 ∧ a4 < 2147483648) (r5 : -2147483648 ≤ a5 ∧ a5 < 2147483648) (r6 : -2147483648 ≤ a6 ∧ a6 < 2147483648) (r7 : -2147483648 ≤ a7 ∧ a7 < 2147483648) : 0 ≤ a5 ∧ a5 < ((360 : Nat) : Int) := by first | (clear h0 h1 h2 h3 h4 h5 h6 h7; omega) | (clear h0 h1 h2 h4 h5 h6; omega) | (clear h0 h1 h2; omega) | (clear h1 h2; omega) | omega
theorem z_X11_least_5 (a0 : Int) (a1 : Int) (a2 : Nat) (h0 : (-99 : Int) ≤ a0) (h1 : 2147483648 - a0 < ((a2 + 1 : Nat) : Int)) (h2 : ¬ ((99 : Int) < a0)) (h3 : a1 = a0 + 1 ∨ a0 + 1 < -2147483648 ∨ 2147483648 ≤ a0 + 1) (r0 : -2147483648 ≤ a0 ∧ a0 < 2147483648) (r1 : -2147483648 ≤ a1 ∧ a1 < 2147483648) : (-99 : Int) ≤ a1 := by first | (clear h0 h1 h2; omega) | omega
theorem z_X11_least_6 (a0 : Int) (a1 : Int) (a2 : Nat) (h0 : (-99 : Int) ≤ a0) (h1 : 2147483648 - a0 < ((a2 + 1 : Nat) : Int)) (h2 : ¬ ((99 : Int) < a0)) (h3 : a1 = a0 + 1 ∨ a0 + 1 < -2147483648 ∨ 2147483648 ≤ a0 + 1) (r0 : -2147483648 ≤ a0 ∧ a0 < 2147483648) (r1 : -2147483648 ≤ a1 ∧ a1 < 2147483648) : 2147483648 - a1 < ((a2 : Nat) : Int) := by first | (clear h0 h2; omega) | omega
theorem z_X11_least_7 (a0 : Int) (a1 : Int) (a2 : Int) (a3 : Int) (a4 : Int) (a5 : Int) (a6 : Int) (a7 : Int) (a8 : Int) (h0 : a6 = 0 ∨ (a6 = 1 ∧ 0 ≤ a0 ∧ a0 ≤ 2 ∧ 0 ≤ a1 ∧ a1 ≤ 29 ∧ a8 = 1)) (h1 : a6 = 0 ∨ a6 = 1) (h2 : ¬ (a6 = 0)) (h3 : (a7 = 1 ∧ 0 ≤ a2 ∧ a2 ≤ 2) ∨ (a7 = 0 ∧ (a2 < 0 ∨ 2 < a2))) (h4 : a7 = 0 ∨ a7 = 1) (h5 : a7 ≠ 0) (h6 : 0 ≤ a0 ∧ a0 ≤ 2 ∧ 0 ≤ a1 ∧ a1 ≤ 29 → a3 = 4 * (30 * a0 + a1)) (h7 : a4 = a3 + (1 : Int) ∨ a3 + (1 : Int) < -2147483648 ∨ 2147483648 ≤ a3 + (1 : Int)) (h8 : a5 = a4 + a2 ∨ a4 + a2 < -2147483648 ∨ 2147483648 ≤ a4 + a2) (r0 : -2147483648 ≤ a0 ∧ a0 < 2147483648) (r1 : -2147483648 ≤ a1 ∧ a1 < 2147483648) (r2 : -2147483648 ≤ a2 ∧ a2 < 2147483648) (r3 : -2147483648 ≤ a3 ∧ a3 < 2147483648) (r4 : -2147483648 ≤ a4 ∧ a4 < 2147483648) (r5 : -2147483648 ≤ a5 ∧ a5 < 2147483648) (r6 : -2147483648 ≤ a6 ∧ a6 < 2147483648) (r7 : -2147483648 ≤ a7 ∧ a7 < 2147483648) : 0 ≤ a5 ∧ a5 < ((360 : Nat) : Int) := by first | (clear h0 h1 h2 h3 h4 h5 h6 h7; omega) | (clear h0 h1 h2 h4 h5 h6; omega) | (clear h0 h1 h2; omega) | (clear h1 h2; omega) | omega
abbrev rm_X11_least : Room := { frames := 6, cells := 0, slots := 0, locals := 146 }
set_option maxHeartbeats 4000000 in
set_option maxRecDepth 100000 in
theorem c_X11_least (l : Launch) (E : XE) (K : Nat → Nat) (F : Nat → Nat → Nat) (tl z0 z1 z2 z3 z4 z5 z6 z7 z8 z9 z10 z11 z12 z13 z14 z15 z16 z17 z18 z19 z20 : Int32) (ar0 ar1 ar2 ar3 ar4 ar5 ar6 ar7 ar8 ar9 ar10 : Nat → Int32) (a : Nat) (p0 : Int32) (p1 : Int32) (p2 : Int32) (ha : K a = 13) (hR : RV ar1) : Met l yX11_least (xw yX11_least cX11_least 7 (some .int)) rm_X11_least (va_Pc [.ref a, .int p0, .int p1, .int p2] (XP E K F (tl, [z0, z1, z2, z3, z4, z5, z6, z7, z8, z9, z10, z11, z12, z13, z14, z15, z16, z17, z18, z19, z20], [ar0, ar1, ar2, ar3, ar4, ar5, ar6, ar7, ar8, ar9, ar10]))) (XQ E (fun v (u : Int32 × Int32 × Int32 × (Nat → Int32) × (Nat → Int32) × (Nat → Int32) × (Nat → Int32)) => ∃ r : Int32, v = .int r) (fun u H => TW E K F (tl, [u.1, z1, z2, u.2.1, u.2.2.1, z5, z6, z7, z8, z9, z10, z11, z12, z13, z14, z15, z16, z17, z18, z19, z20], [u.2.2.2.1, ar1, u.2.2.2.2.1, u.2.2.2.2.2.1, u.2.2.2.2.2.2, ar5, ar6, ar7, ar8, ar9, ar10]) [] H)) 0 0 (xA E) := by
  refine x_enter (by decide) (Nat.le_of_ble_eq_true rfl) ?_
  intro p e s m args below meth c Q S hr hlk hnm hQ hP ls hl
  obtain ⟨hz, hK, hT⟩ := hP
  obtain ⟨hx, hb, -, -, -⟩ := id S
  obtain ⟨H, hT, hS, hgo⟩ : ∃ H : Heap, TW E K F (tl, [z0, z1, z2, z3, z4, z5, z6, z7, z8, z9, z10, z11, z12, z13, z14, z15, z16, z17, z18, z19, z20], [ar0, ar1, ar2, ar3, ar4, ar5, ar6, ar7, ar8, ar9, ar10]) [] H ∧ va_S (xA E) s.heap H [] ∧ H = s.heap := ⟨_, hT, va_S.rf, rfl⟩
  rw [← hgo]
  have hl : lv_has ls 7 [(0, .ref a), (1, .int p0), (2, .int p1), (3, .int p2)] := hl
  refine lv_aload_n hx hb dX11_least_0 rfl (lv_at hl 0 rfl) ?_
  refine lv_iconst (v := 0) hx hb dX11_least_1 (by decide) ?_
  refine pX11_0 (kq := []) (v := 0) S hK hT hS ha kf_X11_134 (Nat.le_of_ble_eq_true rfl) dX11_least_2 (fun _ h => by cases h) (fun H locs hT hS => ?_)
  have hT : TW E K F (tl, [0, z1, z2, z3, z4, z5, z6, z7, z8, z9, z10, z11, z12, z13, z14, z15, z16, z17, z18, z19, z20], [ar0, ar1, ar2, ar3, ar4, ar5, ar6, ar7, ar8, ar9, ar10]) [] H := hT
  refine lv_aload_n hx hb dX11_least_5 rfl (lv_at hl 0 rfl) ?_
  refine lv_iload_n hx hb dX11_least_6 rfl (lv_at hl 1 rfl) ?_
  refine lv_iload_n hx hb dX11_least_7 rfl (lv_at hl 2 rfl) ?_
  refine x_clp (x_runV (b := a) (As := [.int p0, .int p1]) (rest := []) S (c_X11_isRow l E K F tl 0 z1 z2 z3 z4 z5 z6 z7 z8 z9 z10 z11 z12 z13 z14 z15 z16 z17 z18 z19 z20 ar0 ar1 ar2 ar3 ar4 ar5 ar6 ar7 ar8 ar9 ar10 H a p0 p1 ha) mv_X11_isRow km_X11_346 rfl rfl ⟨Nat.le_of_ble_eq_true rfl, Nat.le_of_ble_eq_true rfl⟩ (rc_13 hK hT ha) hK (fun _ => XPh.blind) (fun U hU hW => XPh.at hK hz hS hT hU hW) rfl hl.1 (Nat.le_of_ble_eq_true rfl) dX11_least_8 ⟨Nat.le_of_ble_eq_true rfl, Nat.le_of_ble_eq_true rfl⟩) hS ?_
  rintro _ _ locs ⟨x2, rfl, b3, t1⟩ hS
  have t1 : x2.toInt = 0 ∨ (x2.toInt = 1 ∧ 0 ≤ p0.toInt ∧ p0.toInt ≤ 2 ∧ 0 ≤ p1.toInt ∧ p1.toInt ≤ 29 ∧ (aI ar0 (4 * (30 * p0.toInt + p1.toInt))) = 1) := t1
  refine xi_zeq (tgt := 21) hx hb (rfl : Int32.toInt x2 = x2.toInt) dX11_least_11 (by decide) (fun c4 => ?_) (fun c4 => ?_)
  · refine lv_ldc (v := (-2147483648)) hx hb S.2.2.2.1 (S.2.2.2.2 _ (List.mem_cons_of_mem _ kc_X11_57)) dX11_least_21 ?_
    exact x_ri hx hb hr hlk hQ (Nat.le_of_ble_eq_true rfl) (Nat.le_of_ble_eq_true rfl) hS dX11_least_23 (0, z3, z4, ar0, ar2, ar3, ar4) ⟨_, rfl⟩ hT.nil
  · refine lv_iload_n hx hb dX11_least_14 rfl (lv_at hl 3 rfl) ?_
    refine x_clp (x_runS (As := [.int p2]) (rest := []) S (c_X11_isColumn l E K F tl 0 z1 z2 z3 z4 z5 z6 z7 z8 z9 z10 z11 z12 z13 z14 z15 z16 z17 z18 z19 z20 ar0 ar1 ar2 ar3 ar4 ar5 ar6 ar7 ar8 ar9 ar10 H p2) ms_X11_isColumn km_X11_356 rfl rfl ⟨Nat.le_of_ble_eq_true rfl, Nat.le_of_ble_eq_true rfl⟩ hK (fun _ => XPh.blind) (fun U hU hW => XPh.at hK hz hS hT hU hW) rfl hl.1 (Nat.le_of_ble_eq_true rfl) dX11_least_15 ⟨Nat.le_of_ble_eq_true rfl, Nat.le_of_ble_eq_true rfl⟩) hS ?_
    rintro _ _ locs ⟨x6, rfl, b7, t5⟩ hS
    have t5 : (x6.toInt = 1 ∧ 0 ≤ p2.toInt ∧ p2.toInt ≤ 2) ∨ (x6.toInt = 0 ∧ (p2.toInt < 0 ∨ 2 < p2.toInt)) := t5
    refine xi_zne (tgt := 24) hx hb (rfl : Int32.toInt x6 = x6.toInt) dX11_least_18 (by decide) (fun c8 => ?_) (fun c8 => ?_)
    · refine lv_aload_n hx hb dX11_least_24 rfl (lv_at hl 0 rfl) ?_
      refine x_cv0 (x_runV (b := a) (As := []) (rest := []) S (c_X11_start l E K F tl 0 z1 z2 z3 z4 z5 z6 z7 z8 z9 z10 z11 z12 z13 z14 z15 z16 z17 z18 z19 z20 ar0 ar1 ar2 ar3 ar4 ar5 ar6 ar7 ar8 ar9 ar10 a ha hR) mv_X11_start km_X11_350 rfl rfl ⟨Nat.le_of_ble_eq_true rfl, Nat.le_of_ble_eq_true rfl⟩ (rc_13 hK hT ha) hK (fun _ => XP.blind) (fun U hU hW => XP.at hK hz hS hT hU hW) rfl hl.1 (Nat.le_of_ble_eq_true rfl) dX11_least_25 ⟨Nat.le_of_ble_eq_true rfl, Nat.le_of_ble_eq_true rfl⟩) hS ?_
      rintro _ H locs - hT hS
      refine lv_iload_n hx hb dX11_least_28 rfl (lv_at hl 1 rfl) ?_
      refine lv_iload_n hx hb dX11_least_29 rfl (lv_at hl 2 rfl) ?_
      refine x_clp (x_runS (As := [.int p0, .int p1]) (rest := []) S (c_X11_at l E K F tl 0 z1 z2 z3 z4 z5 z6 z7 z8 z9 z10 z11 z12 z13 z14 z15 z16 z17 z18 z19 z20 ar0 ar1 ar2 ar3 ar4 ar5 ar6 ar7 ar8 ar9 ar10 H p0 p1) ms_X11_at km_X11_156 rfl rfl ⟨Nat.le_of_ble_eq_true rfl, Nat.le_of_ble_eq_true rfl⟩ hK (fun _ => XPh.blind) (fun U hU hW => XPh.at hK hz hS hT hU hW) rfl hl.1 (Nat.le_of_ble_eq_true rfl) dX11_least_30 ⟨Nat.le_of_ble_eq_true rfl, Nat.le_of_ble_eq_true rfl⟩) hS ?_
      rintro _ _ locs ⟨x12, rfl, t11⟩ hS
      have t11 : 0 ≤ p0.toInt ∧ p0.toInt ≤ 2 ∧ 0 ≤ p1.toInt ∧ p1.toInt ≤ 29 → x12.toInt = 4 * (30 * p0.toInt + p1.toInt) := t11
      refine lv_iconst (v := 1) hx hb dX11_least_33 (by decide) ?_
      refine xi_iadd hx hb (rfl : Int32.toInt x12 = x12.toInt) ((by decide) : Int32.toInt 1 = (1 : Int)) dX11_least_34 (fun x14 t15 => ?_)
      refine lv_iload_n hx hb dX11_least_35 rfl (lv_at hl 3 rfl) ?_
      refine xi_iadd hx hb (rfl : Int32.toInt x14 = x14.toInt) (rfl : Int32.toInt p2 = p2.toInt) dX11_least_36 (fun x16 t17 => ?_)
      refine lv_istore (lv' := [(4, .int x16), (0, .ref a), (1, .int p0), (2, .int p1), (3, .int p2)]) hx hb dX11_least_37 hl (by decide) rfl (fun ls hl => ?_)
      refine lv_ldc (v := (-2147483648)) hx hb S.2.2.2.1 (S.2.2.2.2 _ (List.mem_cons_of_mem _ kc_X11_57)) dX11_least_39 ?_
      refine lv_istore (lv' := [(5, .int (-2147483648)), (4, .int x16), (0, .ref a), (1, .int p0), (2, .int p1), (3, .int p2)]) hx hb dX11_least_41 hl (by decide) rfl (fun ls hl => ?_)
      refine lv_bipush (v := (-99)) hx hb dX11_least_43 (by decide) ?_
      refine lv_istore (lv' := [(6, .int (-99)), (5, .int (-2147483648)), (4, .int x16), (0, .ref a), (1, .int p0), (2, .int p1), (3, .int p2)]) hx hb dX11_least_45 hl (by decide) rfl (fun ls hl => ?_)
      have L47 : ∀ (N26 : Nat) (x18 : Int32) (x19 : Int32) (x20 : Int32) (x21 : Int32) (f22 : Nat → Int32) (f23 : Nat → Int32) (f24 : Nat → Int32) (f25 : Nat → Int32) (H : Heap) (locs : List Loc) (ls : Array Slot), (-99 : Int) ≤ x19.toInt → 2147483648 - x19.toInt < ((N26 : Nat) : Int) → TW E K F (tl, [0, z1, z2, x20, x21, z5, z6, z7, z8, z9, z10, z11, z12, z13, z14, z15, z16, z17, z18, z19, z20], [f22, ar1, f23, f24, f25, ar5, ar6, ar7, ar8, ar9, ar10]) [] H → va_S (xA E) s.heap H locs → lv_has ls 7 [(0, .ref a), (4, .int x16), (5, .int x18), (6, .int x19)] → W p l e rm_X11_least s m args below meth c H locs 0 0 Q (F0 m 47 ls []) := by
        intro N26
        induction N26 with
        | zero =>
          intro x18 x19 x20 x21 f22 f23 f24 f25 H locs ls hf27 hm28
          exact absurd hm28 (z_X11_least_1 x19.toInt hf27 (xr x19))
        | succ N26 ih29 =>
          intro x18 x19 x20 x21 f22 f23 f24 f25 H locs ls hf27 hm28 hT hS hl
          refine lv_iload hx hb dX11_least_47 (lv_at hl 3 rfl) ?_
          refine lv_bipush (v := 99) hx hb dX11_least_49 (by decide) ?_
          have J119 : ∀ (H : Heap) (locs : List Loc) (ls : Array Slot), TW E K F (tl, [0, z1, z2, x20, x21, z5, z6, z7, z8, z9, z10, z11, z12, z13, z14, z15, z16, z17, z18, z19, z20], [f22, ar1, f23, f24, f25, ar5, ar6, ar7, ar8, ar9, ar10]) [] H → va_S (xA E) s.heap H locs → lv_has ls 7 [(0, .ref a), (4, .int x16), (5, .int x18)] → W p l e rm_X11_least s m args below meth c H locs 0 0 Q (F0 m 119 ls []) := by
            intro H locs ls hT hS hl
            refine lv_aload_n hx hb dX11_least_119 rfl (lv_at hl 0 rfl) ?_
            refine gX11_1 S hK hT ha kf_X11_9 dX11_least_120 (fun hk30 => ?_)
            refine lv_iload hx hb dX11_least_123 (lv_at hl 1 rfl) ?_
            refine lv_aload_n hx hb dX11_least_125 rfl (lv_at hl 0 rfl) ?_
            refine gX11_4 S hK hT ha kf_X11_21 dX11_least_126 (fun hk31 => ?_)
            refine lv_iload hx hb dX11_least_129 (lv_at hl 1 rfl) ?_
            refine al_0 S hK hT hk31 ar_31 (by decide) (z_X11_least_2 p0.toInt p1.toInt p2.toInt x12.toInt x14.toInt x16.toInt x2.toInt x6.toInt (aI ar0 (4 * (30 * p0.toInt + p1.toInt))) t1 (xbz b3) c4 t5 (xbz b7) c8 t11 t15 t17 (xr p0) (xr p1) (xr p2) (xr x12) (xr x14) (xr x16) (xr x2) (xr x6)) dX11_least_131 (fun x32 o33 => ?_)
            refine tst_0 S hK hT hS hk30 (at_30 (f := f22) rfl) (fun _ => bt_30 (Nat.le_of_ble_eq_true rfl)) (by decide) (by decide) xti_30 (z_X11_least_3 p0.toInt p1.toInt p2.toInt x12.toInt x14.toInt x16.toInt x2.toInt x6.toInt (aI ar0 (4 * (30 * p0.toInt + p1.toInt))) t1 (xbz b3) c4 t5 (xbz b7) c8 t11 t15 t17 (xr p0) (xr p1) (xr p2) (xr x12) (xr x14) (xr x16) (xr x2) (xr x6)) dX11_least_132 (fun f34 H locs hu35 hT hS => ?_)
            have hT : TW E K F (tl, [0, z1, z2, x20, x21, z5, z6, z7, z8, z9, z10, z11, z12, z13, z14, z15, z16, z17, z18, z19, z20], [f34, ar1, f23, f24, f25, ar5, ar6, ar7, ar8, ar9, ar10]) [] H := hT
            refine lv_iload hx hb dX11_least_133 (lv_at hl 2 rfl) ?_
            exact x_ri hx hb hr hlk hQ (Nat.le_of_ble_eq_true rfl) (Nat.le_of_ble_eq_true rfl) hS dX11_least_135 (0, x20, x21, f34, f23, f24, f25) ⟨_, rfl⟩ hT.nil
          refine xi_cgt (tgt := 119) hx hb (rfl : Int32.toInt x19 = x19.toInt) ((by decide) : Int32.toInt 99 = (99 : Int)) dX11_least_51 (by decide) (fun c36 => ?_) (fun c36 => ?_)
          · exact J119 _ _ _ hT.nil hS (lv_sub hl [0, 1, 2] rfl)
          · refine lv_iload hx hb dX11_least_54 (lv_at hl 2 rfl) ?_
            refine lv_ldc (v := (-2147483648)) hx hb S.2.2.2.1 (S.2.2.2.2 _ (List.mem_cons_of_mem _ kc_X11_57)) dX11_least_56 ?_
            refine xi_cne (tgt := 119) hx hb (rfl : Int32.toInt x18 = x18.toInt) ((by decide) : Int32.toInt (-2147483648) = (-2147483648 : Int)) dX11_least_58 (by decide) (fun c37 => ?_) (fun c37 => ?_)
            · exact J119 _ _ _ hT.nil hS (lv_sub hl [0, 1, 2] rfl)
            · refine lv_iload hx hb dX11_least_61 (lv_at hl 3 rfl) ?_
              refine lv_aload_n hx hb dX11_least_63 rfl (lv_at hl 0 rfl) ?_
              refine gX11_4 S hK hT ha kf_X11_21 dX11_least_64 (fun hk38 => ?_)
              refine lv_iload hx hb dX11_least_67 (lv_at hl 1 rfl) ?_
              refine al_0 S hK hT hk38 ar_31 (by decide) (z_X11_least_4 p0.toInt p1.toInt p2.toInt x12.toInt x14.toInt x16.toInt x2.toInt x6.toInt (aI ar0 (4 * (30 * p0.toInt + p1.toInt))) t1 (xbz b3) c4 t5 (xbz b7) c8 t11 t15 t17 (xr p0) (xr p1) (xr p2) (xr x12) (xr x14) (xr x16) (xr x2) (xr x6)) dX11_least_69 (fun x39 o40 => ?_)
              have J113 : ∀ (x41 : Int32) (x42 : Int32) (x43 : Int32) (f44 : Nat → Int32) (f45 : Nat → Int32) (f46 : Nat → Int32) (f47 : Nat → Int32) (H : Heap) (locs : List Loc) (ls : Array Slot), TW E K F (tl, [0, z1, z2, x42, x43, z5, z6, z7, z8, z9, z10, z11, z12, z13, z14, z15, z16, z17, z18, z19, z20], [f44, ar1, f45, f46, f47, ar5, ar6, ar7, ar8, ar9, ar10]) [] H → va_S (xA E) s.heap H locs → lv_has ls 7 [(0, .ref a), (4, .int x16), (5, .int x41), (6, .int x19)] → W p l e rm_X11_least s m args below meth c H locs 0 0 Q (F0 m 113 ls []) := by
                intro x41 x42 x43 f44 f45 f46 f47 H locs ls hT hS hl
                refine xi_iinc (n := 1) (lv' := fun z9 => [(6, .int z9), (0, .ref a), (4, .int x16), (5, .int x41)]) (k := 3) hx hb (rfl : Int32.toInt x19 = x19.toInt) (by decide) dX11_least_113 hl rfl (by decide) (fun _ => rfl) (fun x48 ls t49 hl => ?_)
                have hl : lv_has ls 7 [(6, .int x48), (0, .ref a), (4, .int x16), (5, .int x41)] := hl
                refine lv_goto (tgt := 47) hx hb dX11_least_116 (by decide) ?_
                exact ih29 x41 x48 x42 x43 f44 f45 f46 f47 _ _ _ (z_X11_least_5 x19.toInt x48.toInt N26 hf27 hm28 c36 t49 (xr x19) (xr x48)) (z_X11_least_6 x19.toInt x48.toInt N26 hf27 hm28 c36 t49 (xr x19) (xr x48)) hT.nil hS (lv_sub hl [1, 2, 3, 0] rfl)
              refine xi_ceq (tgt := 113) hx hb (rfl : Int32.toInt x19 = x19.toInt) (rfl : Int32.toInt x39 = x39.toInt) dX11_least_70 (by decide) (fun c50 => ?_) (fun c50 => ?_)
              · exact J113 x18 x20 x21 f22 f23 f24 f25 _ _ _ hT.nil hS (lv_sub hl [0, 1, 2, 3] rfl)
              · refine lv_aload_n hx hb dX11_least_73 rfl (lv_at hl 0 rfl) ?_
                refine gX11_1 S hK hT ha kf_X11_9 dX11_least_74 (fun hk51 => ?_)
                refine lv_iload hx hb dX11_least_77 (lv_at hl 1 rfl) ?_
                refine lv_iload hx hb dX11_least_79 (lv_at hl 3 rfl) ?_
                refine tst_0 S hK hT hS hk51 (at_30 (f := f22) rfl) (fun _ => bt_30 (Nat.le_of_ble_eq_true rfl)) (by decide) (by decide) xti_30 (z_X11_least_7 p0.toInt p1.toInt p2.toInt x12.toInt x14.toInt x16.toInt x2.toInt x6.toInt (aI ar0 (4 * (30 * p0.toInt + p1.toInt))) t1 (xbz b3) c4 t5 (xbz b7) c8 t11 t15 t17 (xr p0) (xr p1) (xr p2) (xr x12) (xr x14) (xr x16) (xr x2) (xr x6)) dX11_least_81 (fun f52 H locs hu53 hT hS => ?_)
                have hT : TW E K F (tl, [0, z1, z2, x20, x21, z5, z6, z7, z8, z9, z10, z11, z12, z13, z14, z15, z16, z17, z18, z19, z20], [f52, ar1, f23, f24, f25, ar5, ar6, ar7, ar8, ar9, ar10]) [] H := hT
                refine lv_aload_n hx hb dX11_least_82 rfl (lv_at hl 0 rfl) ?_
                refine lv_aload_n hx hb dX11_least_83 rfl (lv_at hl 0 rfl) ?_
                refine gX11_11 S hK hT ha kf_X11_36 dX11_least_84 (fun hk54 => ?_)
                refine lv_aload_n hx hb dX11_least_87 rfl (lv_at hl 0 rfl) ?_
                refine gX11_1 S hK hT ha kf_X11_9 dX11_least_88 (fun hk55 => ?_)
                refine lv_iconst (v := 0) hx hb dX11_least_91 (by decide) ?_
                refine x_cv0 (x_runV (b := a) (As := [.ref (F a 11), .ref (F a 1), .int 0]) (rest := []) S (c_X11_layStates l E K F tl 0 z1 z2 x20 x21 z5 z6 z7 z8 z9 z10 z11 z12 z13 z14 z15 z16 z17 z18 z19 z20 f52 ar1 f23 f24 f25 ar5 ar6 ar7 ar8 ar9 ar10 a (F a 11) (F a 1) 0 ha hk54 (XO.a hk55 (by decide)) hR) mv_X11_layStates km_X11_210 rfl rfl ⟨Nat.le_of_ble_eq_true rfl, Nat.le_of_ble_eq_true rfl⟩ (rc_13 hK hT ha) hK (fun _ => XP.blind) (fun U hU hW => XP.at hK hz hS hT hU hW) rfl hl.1 (Nat.le_of_ble_eq_true rfl) dX11_least_92 ⟨Nat.le_of_ble_eq_true rfl, Nat.le_of_ble_eq_true rfl⟩) hS ?_
                rintro _ H locs - hT hS
                refine lv_aload_n hx hb dX11_least_95 rfl (lv_at hl 0 rfl) ?_
                refine lv_iconst (v := 2) hx hb dX11_least_96 (by decide) ?_
                refine x_cl0 (x_runV (b := a) (As := [.int 2]) (rest := []) S (c_X11_asks l E K F tl 0 z1 z2 x20 x21 z5 z6 z7 z8 z9 z10 z11 z12 z13 z14 z15 z16 z17 z18 z19 z20 f52 ar1 f23 f24 f25 ar5 ar6 ar7 ar8 ar9 ar10 a 2 ha hR) mv_X11_asks km_X11_319 rfl rfl ⟨Nat.le_of_ble_eq_true rfl, Nat.le_of_ble_eq_true rfl⟩ (rc_13 hK hT ha) hK (fun _ => XP.blind) (fun U hU hW => XP.at hK hz hS hT hU hW) rfl hl.1 (Nat.le_of_ble_eq_true rfl) dX11_least_97 ⟨Nat.le_of_ble_eq_true rfl, Nat.le_of_ble_eq_true rfl⟩) hS ?_
                rintro _ ⟨u58, u59, f60, f61, f62⟩ H locs ⟨x64, rfl, t63⟩ hT hS
                have hT : TW E K F (tl, [0, z1, z2, u58, u59, z5, z6, z7, z8, z9, z10, z11, z12, z13, z14, z15, z16, z17, z18, z19, z20], [f52, ar1, f60, f61, f62, ar5, ar6, ar7, ar8, ar9, ar10]) [] H := hT
                have t63 : 0 ≤ u59.toInt ∧ u59.toInt ≤ 2388 ∧ u59.toInt ≤ (((fV ar1 f61 f62) : Nat) : Int) ∧ (x64.toInt = -1 ∨ (0 ≤ x64.toInt ∧ x64.toInt < u59.toInt)) := t63
                refine lv_iconst (v := (-1)) hx hb dX11_least_100 (by decide) ?_
                have J111 : ∀ (x66 : Int32) (H : Heap) (locs : List Loc) (ls : Array Slot), TW E K F (tl, [0, z1, z2, u58, u59, z5, z6, z7, z8, z9, z10, z11, z12, z13, z14, z15, z16, z17, z18, z19, z20], [f52, ar1, f60, f61, f62, ar5, ar6, ar7, ar8, ar9, ar10]) [] H → va_S (xA E) s.heap H locs → lv_has ls 7 [(0, .ref a), (4, .int x16), (6, .int x19)] → W p l e rm_X11_least s m args below meth c H locs 0 0 Q (F0 m 111 ls [.int x66]) := by
                  intro x66 H locs ls hT hS hl
                  refine lv_istore (lv' := [(5, .int x66), (0, .ref a), (4, .int x16), (6, .int x19)]) hx hb dX11_least_111 hl (by decide) rfl (fun ls hl => ?_)
                  exact J113 x66 u58 u59 f52 f60 f61 f62 _ _ _ hT.nil hS (lv_sub hl [1, 2, 0, 3] rfl)
                refine xi_cne (tgt := 109) hx hb (rfl : Int32.toInt x64 = x64.toInt) ((by decide) : Int32.toInt (-1) = (-1 : Int)) dX11_least_101 (by decide) (fun c67 => ?_) (fun c67 => ?_)
                · refine lv_ldc (v := (-2147483648)) hx hb S.2.2.2.1 (S.2.2.2.2 _ (List.mem_cons_of_mem _ kc_X11_57)) dX11_least_109 ?_
                  exact J111 (-2147483648) _ _ _ hT.nil hS (lv_sub hl [0, 1, 3] rfl)
                · refine lv_iload hx hb dX11_least_104 (lv_at hl 3 rfl) ?_
                  refine lv_goto (tgt := 111) hx hb dX11_least_106 (by decide) ?_
                  exact J111 x19 _ _ _ hT.nil hS (lv_sub hl [0, 1, 3] rfl)
      exact L47 4294967297 (-2147483648) (-99) z3 z4 ar0 ar2 ar3 ar4 _ _ _ (by decide) (by decide) hT.nil hS (lv_sub hl [3, 2, 1, 0] rfl)
    · refine lv_ldc (v := (-2147483648)) hx hb S.2.2.2.1 (S.2.2.2.2 _ (List.mem_cons_of_mem _ kc_X11_57)) dX11_least_21 ?_
      exact x_ri hx hb hr hlk hQ (Nat.le_of_ble_eq_true rfl) (Nat.le_of_ble_eq_true rfl) hS dX11_least_23 (0, z3, z4, ar0, ar2, ar3, ar4) ⟨_, rfl⟩ hT.nil

theorem z_X11_depth_1 (a0 : Int) (a1 : Int) (a2 : Int) (h0 : a1 = 0 ∨ (a1 = 1 ∧ 0 ≤ a0 ∧ a0 ≤ 11 ∧ 0 ≤ a2)) (h1 : a1 = 0 ∨ a1 = 1) (h2 : ¬ (a1 = 0)) (r0 : -2147483648 ≤ a0 ∧ a0 < 2147483648) (r1 : -2147483648 ≤ a1 ∧ a1 < 2147483648) : 0 ≤ a0 ∧ a0 ≤ 11 := by omega
theorem z_X11_depth_2 (a0 : Int) (a1 : Int) (a2 : Int) (a3 : Int) (h0 : a1 = 0 ∨ (a1 = 1 ∧ 0 ≤ a0 ∧ a0 ≤ 11 ∧ 0 ≤ a3)) (h1 : a1 = 0 ∨ a1 = 1) (h2 : ¬ (a1 = 0)) (h3 : a2 = a3) (r0 : -2147483648 ≤ a0 ∧ a0 < 2147483648) (r1 : -2147483648 ≤ a1 ∧ a1 < 2147483648) (r2 : -2147483648 ≤ a2 ∧ a2 < 2147483648) : 0 ≤ a0 ∧ a0 ≤ 11 := by first | (clear h1 h2 h3; omega) | omega
theorem z_X11_depth_3 (a0 : Int) (a1 : Int) (a2 : Int) (a3 : Int) (a4 : Int) (a5 : Int) (a6 : Int) (h0 : a1 = 0 ∨ (a1 = 1 ∧ 0 ≤ a0 ∧ a0 ≤ 11 ∧ 0 ≤ a3)) (h1 : a1 = 0 ∨ a1 = 1) (h2 : ¬ (a1 = 0)) (h3 : a2 = a3) (h4 : (-1 ≤ a3 ∧ a3 ≤ 5) ∧ (0 ≤ a4 ∧ a4 ≤ 2) ∧ (0 ≤ a5 ∧ a5 ≤ 2) ∧ (-1 ≤ a6 ∧ a6 ≤ 2) ∧ (a3 = 1 ∨ a3 = 3 ∨ a3 = 4 → 0 ≤ a6)) (h5 : ¬ (a2 ≠ (5 : Int))) (r0 : -2147483648 ≤ a0 ∧ a0 < 2147483648) (r1 : -2147483648 ≤ a1 ∧ a1 < 2147483648) (r2 : -2147483648 ≤ a2 ∧ a2 < 2147483648) : 0 ≤ a0 ∧ a0 ≤ 11 := by first | (clear h1 h2 h3 h4 h5; omega) | (clear h5; omega) | omega
theorem z_X11_depth_4 (a0 : Int) (h0 : (0 : Int) ≤ a0) (r0 : -2147483648 ≤ a0 ∧ a0 < 2147483648) : ¬ (2147483648 - a0 < ((0 : Nat) : Int)) := by omega
theorem z_X11_depth_5 (a0 : Int) (a1 : Int) (a2 : Int) (a3 : Int) (a4 : Int) (a5 : Int) (a6 : Int) (a7 : Int) (a8 : Int) (a9 : Int) (a10 : Int) (h0 : a4 = 0 ∨ (a4 = 1 ∧ 0 ≤ a0 ∧ a0 ≤ 11 ∧ 0 ≤ a7)) (h1 : a4 = 0 ∨ a4 = 1) (h2 : ¬ (a4 = 0)) (h3 : a5 = a7) (h4 : (-1 ≤ a7 ∧ a7 ≤ 5) ∧ (0 ≤ a8 ∧ a8 ≤ 2) ∧ (0 ≤ a9 ∧ a9 ≤ 2) ∧ (-1 ≤ a10 ∧ a10 ≤ 2) ∧ (a7 = 1 ∨ a7 = 3 ∨ a7 = 4 → 0 ≤ a10)) (h5 : ¬ (a5 ≠ (5 : Int))) (h6 : a2 = a8) (h7 : a3 = 0 ∨ (a3 = 1 ∧ 0 ≤ a2 ∧ a2 ≤ 2 ∧ 0 ≤ a1 ∧ a1 ≤ 29 ∧ a6 = 1)) (h8 : a3 = 0 ∨ a3 = 1) (h9 : a3 ≠ 0) (r0 : -2147483648 ≤ a0 ∧ a0 < 2147483648) (r1 : -2147483648 ≤ a1 ∧ a1 < 2147483648) (r2 : -2147483648 ≤ a2 ∧ a2 < 2147483648) (r3 : -2147483648 ≤ a3 ∧ a3 < 2147483648) (r4 : -2147483648 ≤ a4 ∧ a4 < 2147483648) (r5 : -2147483648 ≤ a5 ∧ a5 < 2147483648) : 0 ≤ a0 ∧ a0 ≤ 11 := by first | (clear h1 h2 h3 h4 h5 h6 h7 h8 h9; omega) | (clear h5 h6 h7 h8 h9; omega) | (clear h7 h8 h9; omega) | (clear h8 h9; omega) | omega
theorem z_X11_depth_6 (a0 : Int) (a1 : Int) (a2 : Int) (a3 : Int) (a4 : Int) (a5 : Int) (a6 : Int) (a7 : Int) (a8 : Int) (a9 : Int) (a10 : Int) (a11 : Int) (a12 : Int) (a13 : Int) (a14 : Int) (h0 : a5 = 0 ∨ (a5 = 1 ∧ 0 ≤ a0 ∧ a0 ≤ 11 ∧ 0 ≤ a11)) (h1 : a5 = 0 ∨ a5 = 1) (h2 : ¬ (a5 = 0)) (h3 : a9 = a11) (h4 : (-1 ≤ a11 ∧ a11 ≤ 5) ∧ (0 ≤ a12 ∧ a12 ≤ 2) ∧ (0 ≤ a13 ∧ a13 ≤ 2) ∧ (-1 ≤ a14 ∧ a14 ≤ 2) ∧ (a11 = 1 ∨ a11 = 3 ∨ a11 = 4 → 0 ≤ a14)) (h5 : ¬ (a9 ≠ (5 : Int))) (h6 : a2 = a12) (h7 : a3 = 0 ∨ (a3 = 1 ∧ 0 ≤ a2 ∧ a2 ≤ 2 ∧ 0 ≤ a1 ∧ a1 ≤ 29 ∧ a10 = 1)) (h8 : a3 = 0 ∨ a3 = 1) (h9 : a3 ≠ 0) (h10 : 0 ≤ a4 ∧ a4 ≤ 29) (h11 : a6 = a12) (h12 : 0 ≤ a6 ∧ a6 ≤ 2 ∧ 0 ≤ a4 ∧ a4 ≤ 29 → a7 = 4 * (30 * a6 + a4)) (h13 : a8 = a7 + (1 : Int) ∨ a7 + (1 : Int) < -2147483648 ∨ 2147483648 ≤ a7 + (1 : Int)) (r0 : -2147483648 ≤ a0 ∧ a0 < 2147483648) (r1 : -2147483648 ≤ a1 ∧ a1 < 2147483648) (r2 : -2147483648 ≤ a2 ∧ a2 < 2147483648) (r3 : -2147483648 ≤ a3 ∧ a3 < 2147483648) (r4 : -2147483648 ≤ a4 ∧ a4 < 2147483648) (r5 : -2147483648 ≤ a5 ∧ a5 < 2147483648) (r6 : -2147483648 ≤ a6 ∧ a6 < 2147483648) (r7 : -2147483648 ≤ a7 ∧ a7 < 2147483648) (r8 : -2147483648 ≤ a8 ∧ a8 < 2147483648) (r9 : -2147483648 ≤ a9 ∧ a9 < 2147483648) : 0 ≤ a0 ∧ a0 ≤ 11 := by first | (clear h1 h2 h3 h4 h5 h6 h7 h8 h9 h10 h11 h12 h13; omega) | (clear h5 h6 h7 h8 h9 h10 h11 h12 h13; omega) | (clear h7 h8 h9 h10 h12 h13; omega) | (clear h8 h9 h10 h13; omega) | omega
theorem z_X11_depth_7 (a0 : Int) (a1 : Int) (a2 : Int) (a3 : Int) (a4 : Int) (a5 : Int) (a6 : Int) (a7 : Int) (a8 : Int) (a9 : Int) (a10 : Int) (a11 : Int) (a12 : Int) (a13 : Int) (a14 : Int) (a15 : Int) (a16 : Int) (h0 : a5 = 0 ∨ (a5 = 1 ∧ 0 ≤ a0 ∧ a0 ≤ 11 ∧ 0 ≤ a13)) (h1 : a5 = 0 ∨ a5 = 1) (h2 : ¬ (a5 = 0)) (h3 : a11 = a13) (h4 : (-1 ≤ a13 ∧ a13 ≤ 5) ∧ (0 ≤ a14 ∧ a14 ≤ 2) ∧ (0 ≤ a15 ∧ a15 ≤ 2) ∧ (-1 ≤ a16 ∧ a16 ≤ 2) ∧ (a13 = 1 ∨ a13 = 3 ∨ a13 = 4 → 0 ≤ a16)) (h5 : ¬ (a11 ≠ (5 : Int))) (h6 : a2 = a14) (h7 : a3 = 0 ∨ (a3 = 1 ∧ 0 ≤ a2 ∧ a2 ≤ 2 ∧ 0 ≤ a1 ∧ a1 ≤ 29 ∧ a12 = 1)) (h8 : a3 = 0 ∨ a3 = 1) (h9 : a3 ≠ 0) (h10 : 0 ≤ a4 ∧ a4 ≤ 29) (h11 : a6 = a14) (h12 : 0 ≤ a6 ∧ a6 ≤ 2 ∧ 0 ≤ a4 ∧ a4 ≤ 29 → a7 = 4 * (30 * a6 + a4)) (h13 : a8 = a7 + (1 : Int) ∨ a7 + (1 : Int) < -2147483648 ∨ 2147483648 ≤ a7 + (1 : Int)) (h14 : a9 = a15) (h15 : a10 = a8 + a9 ∨ a8 + a9 < -2147483648 ∨ 2147483648 ≤ a8 + a9) (r0 : -2147483648 ≤ a0 ∧ a0 < 2147483648) (r1 : -2147483648 ≤ a1 ∧ a1 < 2147483648) (r2 : -2147483648 ≤ a2 ∧ a2 < 2147483648) (r3 : -2147483648 ≤ a3 ∧ a3 < 2147483648) (r4 : -2147483648 ≤ a4 ∧ a4 < 2147483648) (r5 : -2147483648 ≤ a5 ∧ a5 < 2147483648) (r6 : -2147483648 ≤ a6 ∧ a6 < 2147483648) (r7 : -2147483648 ≤ a7 ∧ a7 < 2147483648) (r8 : -2147483648 ≤ a8 ∧ a8 < 2147483648) (r9 : -2147483648 ≤ a9 ∧ a9 < 2147483648) (r10 : -2147483648 ≤ a10 ∧ a10 < 2147483648) (r11 : -2147483648 ≤ a11 ∧ a11 < 2147483648) : 0 ≤ a10 ∧ a10 < ((360 : Nat) : Int) := by first | (clear h0 h1 h2 h3 h4 h5 h6 h7 h8 h9 h10 h11 h12 h13 h14; omega) | (clear h0 h1 h2 h3 h4 h5 h6 h7 h8 h9 h10 h11 h12; omega) | (clear h0 h1 h2 h3 h5 h6 h7 h8 h9 h10 h11; omega) | (clear h1 h2 h5 h7 h8 h9; omega) | (clear h8 h9; omega) | omega
theorem z_X11_depth_8 (a0 : Int) (a1 : Int) (a2 : Int) (a3 : Int) (a4 : Int) (a5 : Int) (a6 : Int) (a7 : Int) (a8 : Int) (a9 : Int) (a10 : Int) (a11 : Int) (a12 : Int) (a13 : Int) (a14 : Int) (a15 : Int) (a16 : Int) (h0 : a5 = 0 ∨ (a5 = 1 ∧ 0 ≤ a0 ∧ a0 ≤ 11 ∧ 0 ≤ a13)) (h1 : a5 = 0 ∨ a5 = 1) (h2 : ¬ (a5 = 0)) (h3 : a11 = a13) (h4 : (-1 ≤ a13 ∧ a13 ≤ 5) ∧ (0 ≤ a14 ∧ a14 ≤ 2) ∧ (0 ≤ a15 ∧ a15 ≤ 2) ∧ (-1 ≤ a16 ∧ a16 ≤ 2) ∧ (a13 = 1 ∨ a13 = 3 ∨ a13 = 4 → 0 ≤ a16)) (h5 : ¬ (a11 ≠ (5 : Int))) (h6 : a2 = a14) (h7 : a3 = 0 ∨ (a3 = 1 ∧ 0 ≤ a2 ∧ a2 ≤ 2 ∧ 0 ≤ a1 ∧ a1 ≤ 29 ∧ a12 = 1)) (h8 : a3 = 0 ∨ a3 = 1) (h9 : a3 ≠ 0) (h10 : 0 ≤ a4 ∧ a4 ≤ 29) (h11 : a6 = a14) (h12 : 0 ≤ a6 ∧ a6 ≤ 2 ∧ 0 ≤ a4 ∧ a4 ≤ 29 → a7 = 4 * (30 * a6 + a4)) (h13 : a8 = a7 + (1 : Int) ∨ a7 + (1 : Int) < -2147483648 ∨ 2147483648 ≤ a7 + (1 : Int)) (h14 : a9 = a15) (h15 : a10 = a8 + a9 ∨ a8 + a9 < -2147483648 ∨ 2147483648 ≤ a8 + a9) (r0 : -2147483648 ≤ a0 ∧ a0 < 2147483648) (r1 : -2147483648 ≤ a1 ∧ a1 < 2147483648) (r2 : -2147483648 ≤ a2 ∧ a2 < 2147483648) (r3 : -2147483648 ≤ a3 ∧ a3 < 2147483648) (r4 : -2147483648 ≤ a4 ∧ a4 < 2147483648) (r5 : -2147483648 ≤ a5 ∧ a5 < 2147483648) (r6 : -2147483648 ≤ a6 ∧ a6 < 2147483648) (r7 : -2147483648 ≤ a7 ∧ a7 < 2147483648) (r8 : -2147483648 ≤ a8 ∧ a8 < 2147483648) (r9 : -2147483648 ≤ a9 ∧ a9 < 2147483648) (r10 : -2147483648 ≤ a10 ∧ a10 < 2147483648) (r11 : -2147483648 ≤ a11 ∧ a11 < 2147483648) : 0 ≤ a0 ∧ a0 ≤ 11 := by first | (clear h1 h2 h3 h4 h5 h6 h7 h8 h9 h10 h11 h12 h13 h14 h15; omega) | (clear h5 h6 h7 h8 h9 h10 h11 h12 h13 h14 h15; omega) | (clear h7 h8 h9 h10 h12 h13 h15; omega) | (clear h8 h9 h10 h13; omega) | omega
theorem z_X11_depth_9 (a0 : Int) (a1 : Int) (a2 : Int) (a3 : Int) (a4 : Int) (a5 : Int) (a6 : Int) (a7 : Int) (a8 : Int) (a9 : Int) (a10 : Int) (a11 : Int) (a12 : Int) (a13 : Int) (a14 : Int) (a15 : Int) (a16 : Int) (a17 : Int) (a18 : Int) (a19 : Int) (a20 : Int) (a21 : Int) (h0 : a5 = 0 ∨ (a5 = 1 ∧ 0 ≤ a0 ∧ a0 ≤ 11 ∧ 0 ≤ a18)) (h1 : a5 = 0 ∨ a5 = 1) (h2 : ¬ (a5 = 0)) (h3 : a14 = a18) (h4 : (-1 ≤ a18 ∧ a18 ≤ 5) ∧ (0 ≤ a19 ∧ a19 ≤ 2) ∧ (0 ≤ a20 ∧ a20 ≤ 2) ∧ (-1 ≤ a21 ∧ a21 ≤ 2) ∧ (a18 = 1 ∨ a18 = 3 ∨ a18 = 4 → 0 ≤ a21)) (h5 : ¬ (a14 ≠ (5 : Int))) (h6 : a2 = a19) (h7 : a3 = 0 ∨ (a3 = 1 ∧ 0 ≤ a2 ∧ a2 ≤ 2 ∧ 0 ≤ a1 ∧ a1 ≤ 29 ∧ a15 = 1)) (h8 : a3 = 0 ∨ a3 = 1) (h9 : a3 ≠ 0) (h10 : 0 ≤ a4 ∧ a4 ≤ 29) (h11 : a6 = a19) (h12 : 0 ≤ a6 ∧ a6 ≤ 2 ∧ 0 ≤ a4 ∧ a4 ≤ 29 → a7 = 4 * (30 * a6 + a4)) (h13 : a8 = a7 + (1 : Int) ∨ a7 + (1 : Int) < -2147483648 ∨ 2147483648 ≤ a7 + (1 : Int)) (h14 : a9 = a20) (h15 : a10 = a8 + a9 ∨ a8 + a9 < -2147483648 ∨ 2147483648 ≤ a8 + a9) (h16 : a11 = a17) (h17 : a12 = a19) (h18 : a13 = 0 ∨ (a13 = 1 ∧ 0 ≤ a12 ∧ a12 ≤ 2 ∧ 0 ≤ a11 ∧ a11 ≤ 29 ∧ a16 = 1)) (h19 : a13 = 0 ∨ a13 = 1) (h20 : a13 ≠ 0) (r0 : -2147483648 ≤ a0 ∧ a0 < 2147483648) (r1 : -2147483648 ≤ a1 ∧ a1 < 2147483648) (r2 : -2147483648 ≤ a2 ∧ a2 < 2147483648) (r3 : -2147483648 ≤ a3 ∧ a3 < 2147483648) (r4 : -2147483648 ≤ a4 ∧ a4 < 2147483648) (r5 : -2147483648 ≤ a5 ∧ a5 < 2147483648) (r6 : -2147483648 ≤ a6 ∧ a6 < 2147483648) (r7 : -2147483648 ≤ a7 ∧ a7 < 2147483648) (r8 : -2147483648 ≤ a8 ∧ a8 < 2147483648) (r9 : -2147483648 ≤ a9 ∧ a9 < 2147483648) (r10 : -2147483648 ≤ a10 ∧ a10 < 2147483648) (r11 : -2147483648 ≤ a11 ∧ a11 < 2147483648) (r12 : -2147483648 ≤ a12 ∧ a12 < 2147483648) (r13 : -2147483648 ≤ a13 ∧ a13 < 2147483648) (r14 : -2147483648 ≤ a14 ∧ a14 < 2147483648) : 0 ≤ a11 ∧ a11 ≤ 29 := by first | (clear h0 h1 h2 h3 h4 h5 h6 h7 h8 h9 h10 h11 h12 h13 h14 h15 h17 h19 h20; omega) | (clear h0 h1 h2 h3 h4 h5 h6 h7 h8 h9 h10 h11 h12 h13 h14 h15; omega) | (clear h0 h1 h2 h3 h5 h7 h8 h9 h10 h12 h13 h14 h15; omega) | (clear h1 h2 h5 h8 h9 h10 h13 h15; omega) | omega
theorem z_X11_depth_10 (a0 : Int) (a1 : Int) (a2 : Nat) (h0 : (0 : Int) ≤ a0) (h1 : 2147483648 - a0 < ((a2 + 1 : Nat) : Int)) (h2 : ¬ ((30 : Int) < a0)) (h3 : a1 = a0 + 1 ∨ a0 + 1 < -2147483648 ∨ 2147483648 ≤ a0 + 1) (r0 : -2147483648 ≤ a0 ∧ a0 < 2147483648) (r1 : -2147483648 ≤ a1 ∧ a1 < 2147483648) : (0 : Int) ≤ a1 := by first | (clear h0 h1 h2; omega) | omega
theorem z_X11_depth_11 (a0 : Int) (a1 : Int) (a2 : Nat) (h0 : (0 : Int) ≤ a0) (h1 : 2147483648 - a0 < ((a2 + 1 : Nat) : Int)) (h2 : ¬ ((30 : Int) < a0)) (h3 : a1 = a0 + 1 ∨ a0 + 1 < -2147483648 ∨ 2147483648 ≤ a0 + 1) (r0 : -2147483648 ≤ a0 ∧ a0 < 2147483648) (r1 : -2147483648 ≤ a1 ∧ a1 < 2147483648) : 2147483648 - a1 < ((a2 : Nat) : Int) := by first | (clear h0 h2; omega) | omega
theorem z_X11_depth_12 (a0 : Int) (a1 : Int) (a2 : Int) (a3 : Int) (a4 : Int) (a5 : Int) (a6 : Int) (a7 : Int) (a8 : Int) (a9 : Int) (a10 : Int) (h0 : a4 = 0 ∨ (a4 = 1 ∧ 0 ≤ a0 ∧ a0 ≤ 11 ∧ 0 ≤ a7)) (h1 : a4 = 0 ∨ a4 = 1) (h2 : ¬ (a4 = 0)) (h3 : a5 = a7) (h4 : (-1 ≤ a7 ∧ a7 ≤ 5) ∧ (0 ≤ a8 ∧ a8 ≤ 2) ∧ (0 ≤ a9 ∧ a9 ≤ 2) ∧ (-1 ≤ a10 ∧ a10 ≤ 2) ∧ (a7 = 1 ∨ a7 = 3 ∨ a7 = 4 → 0 ≤ a10)) (h5 : ¬ (a5 ≠ (5 : Int))) (h6 : a2 = a8) (h7 : a3 = 0 ∨ (a3 = 1 ∧ 0 ≤ a2 ∧ a2 ≤ 2 ∧ 0 ≤ a1 ∧ a1 ≤ 29 ∧ a6 = 1)) (h8 : a3 = 0 ∨ a3 = 1) (h9 : a3 ≠ 0) (r0 : -2147483648 ≤ a0 ∧ a0 < 2147483648) (r1 : -2147483648 ≤ a1 ∧ a1 < 2147483648) (r2 : -2147483648 ≤ a2 ∧ a2 < 2147483648) (r3 : -2147483648 ≤ a3 ∧ a3 < 2147483648) (r4 : -2147483648 ≤ a4 ∧ a4 < 2147483648) (r5 : -2147483648 ≤ a5 ∧ a5 < 2147483648) : 0 ≤ a1 ∧ a1 ≤ 29 := by first | (clear h0 h1 h2 h3 h4 h5 h6 h8 h9; omega) | (clear h0 h1 h2 h3 h4 h5; omega) | (clear h0 h1 h2 h3 h5; omega) | (clear h1 h2 h5; omega) | omega
abbrev rm_X11_depth : Room := { frames := 3, cells := 0, slots := 0, locals := 67 }
set_option maxHeartbeats 4000000 in
set_option maxRecDepth 100000 in
theorem c_X11_depth (l : Launch) (E : XE) (K : Nat → Nat) (F : Nat → Nat → Nat) (tl z0 z1 z2 z3 z4 z5 z6 z7 z8 z9 z10 z11 z12 z13 z14 z15 z16 z17 z18 z19 z20 : Int32) (ar0 ar1 ar2 ar3 ar4 ar5 ar6 ar7 ar8 ar9 ar10 : Nat → Int32) (a : Nat) (p0 : Int32) (p1 : Int32) (ha : K a = 13) (hR : RV ar1) : Met l yX11_depth (xw yX11_depth cX11_depth 6 (some .int)) rm_X11_depth (va_Pc [.ref a, .int p0, .int p1] (XP E K F (tl, [z0, z1, z2, z3, z4, z5, z6, z7, z8, z9, z10, z11, z12, z13, z14, z15, z16, z17, z18, z19, z20], [ar0, ar1, ar2, ar3, ar4, ar5, ar6, ar7, ar8, ar9, ar10]))) (XQ E (fun v (u : Int32) => ∃ r : Int32, v = .int r) (fun u H => TW E K F (tl, [u, z1, z2, z3, z4, z5, z6, z7, z8, z9, z10, z11, z12, z13, z14, z15, z16, z17, z18, z19, z20], [ar0, ar1, ar2, ar3, ar4, ar5, ar6, ar7, ar8, ar9, ar10]) [] H)) 0 0 (xA E) := by
  refine x_enter (by decide) (Nat.le_of_ble_eq_true rfl) ?_
  intro p e s m args below meth c Q S hr hlk hnm hQ hP ls hl
  obtain ⟨hz, hK, hT⟩ := hP
  obtain ⟨hx, hb, -, -, -⟩ := id S
  obtain ⟨H, hT, hS, hgo⟩ : ∃ H : Heap, TW E K F (tl, [z0, z1, z2, z3, z4, z5, z6, z7, z8, z9, z10, z11, z12, z13, z14, z15, z16, z17, z18, z19, z20], [ar0, ar1, ar2, ar3, ar4, ar5, ar6, ar7, ar8, ar9, ar10]) [] H ∧ va_S (xA E) s.heap H [] ∧ H = s.heap := ⟨_, hT, va_S.rf, rfl⟩
  rw [← hgo]
  have hl : lv_has ls 6 [(0, .ref a), (1, .int p0), (2, .int p1)] := hl
  refine lv_aload_n hx hb dX11_depth_0 rfl (lv_at hl 0 rfl) ?_
  refine lv_iconst (v := 0) hx hb dX11_depth_1 (by decide) ?_
  refine pX11_0 (kq := []) (v := 0) S hK hT hS ha kf_X11_134 (Nat.le_of_ble_eq_true rfl) dX11_depth_2 (fun _ h => by cases h) (fun H locs hT hS => ?_)
  have hT : TW E K F (tl, [0, z1, z2, z3, z4, z5, z6, z7, z8, z9, z10, z11, z12, z13, z14, z15, z16, z17, z18, z19, z20], [ar0, ar1, ar2, ar3, ar4, ar5, ar6, ar7, ar8, ar9, ar10]) [] H := hT
  refine lv_aload_n hx hb dX11_depth_5 rfl (lv_at hl 0 rfl) ?_
  refine lv_iload_n hx hb dX11_depth_6 rfl (lv_at hl 1 rfl) ?_
  refine x_clp (x_runV (b := a) (As := [.int p0]) (rest := []) S (c_X11_isRule l E K F tl 0 z1 z2 z3 z4 z5 z6 z7 z8 z9 z10 z11 z12 z13 z14 z15 z16 z17 z18 z19 z20 ar0 ar1 ar2 ar3 ar4 ar5 ar6 ar7 ar8 ar9 ar10 H a p0 ha hR) mv_X11_isRule km_X11_162 rfl rfl ⟨Nat.le_of_ble_eq_true rfl, Nat.le_of_ble_eq_true rfl⟩ (rc_13 hK hT ha) hK (fun _ => XPh.blind) (fun U hU hW => XPh.at hK hz hS hT hU hW) rfl hl.1 (Nat.le_of_ble_eq_true rfl) dX11_depth_7 ⟨Nat.le_of_ble_eq_true rfl, Nat.le_of_ble_eq_true rfl⟩) hS ?_
  rintro _ _ locs ⟨x2, rfl, b3, t1⟩ hS
  have t1 : x2.toInt = 0 ∨ (x2.toInt = 1 ∧ 0 ≤ p0.toInt ∧ p0.toInt ≤ 11 ∧ 0 ≤ (aI ar1 (10 * p0.toInt + (0 : Int)))) := t1
  refine xi_zeq (tgt := 37) hx hb (rfl : Int32.toInt x2 = x2.toInt) dX11_depth_10 (by decide) (fun c4 => ?_) (fun c4 => ?_)
  · refine lv_iconst (v := (-1)) hx hb dX11_depth_37 (by decide) ?_
    exact x_ri hx hb hr hlk hQ (Nat.le_of_ble_eq_true rfl) (Nat.le_of_ble_eq_true rfl) hS dX11_depth_38 (0) ⟨_, rfl⟩ hT.nil
  · refine lv_aload_n hx hb dX11_depth_13 rfl (lv_at hl 0 rfl) ?_
    refine lv_iload_n hx hb dX11_depth_14 rfl (lv_at hl 1 rfl) ?_
    refine lv_iconst (v := 0) hx hb dX11_depth_15 (by decide) ?_
    refine x_clp (x_runV (b := a) (As := [.int p0, .int 0]) (rest := []) S (c_X11_of l E K F tl 0 z1 z2 z3 z4 z5 z6 z7 z8 z9 z10 z11 z12 z13 z14 z15 z16 z17 z18 z19 z20 ar0 ar1 ar2 ar3 ar4 ar5 ar6 ar7 ar8 ar9 ar10 H a p0 0 ha (z_X11_depth_1 p0.toInt x2.toInt (aI ar1 (10 * p0.toInt + (0 : Int))) t1 (xbz b3) c4 (xr p0) (xr x2)) (by decide)) mv_X11_of km_X11_165 rfl rfl ⟨Nat.le_of_ble_eq_true rfl, Nat.le_of_ble_eq_true rfl⟩ (rc_13 hK hT ha) hK (fun _ => XPh.blind) (fun U hU hW => XPh.at hK hz hS hT hU hW) rfl hl.1 (Nat.le_of_ble_eq_true rfl) dX11_depth_16 ⟨Nat.le_of_ble_eq_true rfl, Nat.le_of_ble_eq_true rfl⟩) hS ?_
    rintro _ _ locs ⟨x6, rfl, t5⟩ hS
    have t5 : x6.toInt = (aI ar1 (10 * p0.toInt + (0 : Int))) := t5
    have v8 : (-1 ≤ (aI ar1 (10 * p0.toInt + (0 : Int))) ∧ (aI ar1 (10 * p0.toInt + (0 : Int))) ≤ 5) ∧ (0 ≤ (aI ar1 (10 * p0.toInt + (1 : Int))) ∧ (aI ar1 (10 * p0.toInt + (1 : Int))) ≤ 2) ∧ (0 ≤ (aI ar1 (10 * p0.toInt + (2 : Int))) ∧ (aI ar1 (10 * p0.toInt + (2 : Int))) ≤ 2) ∧ (-1 ≤ (aI ar1 (10 * p0.toInt + (3 : Int))) ∧ (aI ar1 (10 * p0.toInt + (3 : Int))) ≤ 2) ∧ ((aI ar1 (10 * p0.toInt + (0 : Int))) = 1 ∨ (aI ar1 (10 * p0.toInt + (0 : Int))) = 3 ∨ (aI ar1 (10 * p0.toInt + (0 : Int))) = 4 → 0 ≤ (aI ar1 (10 * p0.toInt + (3 : Int)))) := RV.row hR (z_X11_depth_2 p0.toInt x2.toInt x6.toInt (aI ar1 (10 * p0.toInt + (0 : Int))) t1 (xbz b3) c4 t5 (xr p0) (xr x2) (xr x6))
    refine lv_iconst (v := 5) hx hb dX11_depth_19 (by decide) ?_
    refine xi_cne (tgt := 37) hx hb (rfl : Int32.toInt x6 = x6.toInt) ((by decide) : Int32.toInt 5 = (5 : Int)) dX11_depth_20 (by decide) (fun c9 => ?_) (fun c9 => ?_)
    · refine lv_iconst (v := (-1)) hx hb dX11_depth_37 (by decide) ?_
      exact x_ri hx hb hr hlk hQ (Nat.le_of_ble_eq_true rfl) (Nat.le_of_ble_eq_true rfl) hS dX11_depth_38 (0) ⟨_, rfl⟩ hT.nil
    · refine lv_aload_n hx hb dX11_depth_23 rfl (lv_at hl 0 rfl) ?_
      refine lv_aload_n hx hb dX11_depth_24 rfl (lv_at hl 0 rfl) ?_
      refine lv_iload_n hx hb dX11_depth_25 rfl (lv_at hl 1 rfl) ?_
      refine lv_iconst (v := 1) hx hb dX11_depth_26 (by decide) ?_
      refine x_clp (x_runV (b := a) (As := [.int p0, .int 1]) (rest := [.ref a]) S (c_X11_of l E K F tl 0 z1 z2 z3 z4 z5 z6 z7 z8 z9 z10 z11 z12 z13 z14 z15 z16 z17 z18 z19 z20 ar0 ar1 ar2 ar3 ar4 ar5 ar6 ar7 ar8 ar9 ar10 H a p0 1 ha (z_X11_depth_3 p0.toInt x2.toInt x6.toInt (aI ar1 (10 * p0.toInt + (0 : Int))) (aI ar1 (10 * p0.toInt + (1 : Int))) (aI ar1 (10 * p0.toInt + (2 : Int))) (aI ar1 (10 * p0.toInt + (3 : Int))) t1 (xbz b3) c4 t5 v8 c9 (xr p0) (xr x2) (xr x6)) (by decide)) mv_X11_of km_X11_165 rfl rfl ⟨Nat.le_of_ble_eq_true rfl, Nat.le_of_ble_eq_true rfl⟩ (rc_13 hK hT ha) hK (fun _ => XPh.blind) (fun U hU hW => XPh.at hK hz hS hT hU hW) rfl hl.1 (Nat.le_of_ble_eq_true rfl) dX11_depth_27 ⟨Nat.le_of_ble_eq_true rfl, Nat.le_of_ble_eq_true rfl⟩) hS ?_
      rintro _ _ locs ⟨x11, rfl, t10⟩ hS
      have t10 : x11.toInt = (aI ar1 (10 * p0.toInt + (1 : Int))) := t10
      refine lv_iload_n hx hb dX11_depth_30 rfl (lv_at hl 2 rfl) ?_
      refine x_clp (x_runV (b := a) (As := [.int x11, .int p1]) (rest := []) S (c_X11_isRow l E K F tl 0 z1 z2 z3 z4 z5 z6 z7 z8 z9 z10 z11 z12 z13 z14 z15 z16 z17 z18 z19 z20 ar0 ar1 ar2 ar3 ar4 ar5 ar6 ar7 ar8 ar9 ar10 H a x11 p1 ha) mv_X11_isRow km_X11_346 rfl rfl ⟨Nat.le_of_ble_eq_true rfl, Nat.le_of_ble_eq_true rfl⟩ (rc_13 hK hT ha) hK (fun _ => XPh.blind) (fun U hU hW => XPh.at hK hz hS hT hU hW) rfl hl.1 (Nat.le_of_ble_eq_true rfl) dX11_depth_31 ⟨Nat.le_of_ble_eq_true rfl, Nat.le_of_ble_eq_true rfl⟩) hS ?_
      rintro _ _ locs ⟨x14, rfl, b15, t13⟩ hS
      have t13 : x14.toInt = 0 ∨ (x14.toInt = 1 ∧ 0 ≤ x11.toInt ∧ x11.toInt ≤ 2 ∧ 0 ≤ p1.toInt ∧ p1.toInt ≤ 29 ∧ (aI ar0 (4 * (30 * x11.toInt + p1.toInt))) = 1) := t13
      refine xi_zne (tgt := 39) hx hb (rfl : Int32.toInt x14 = x14.toInt) dX11_depth_34 (by decide) (fun c16 => ?_) (fun c16 => ?_)
      · refine lv_iconst (v := 0) hx hb dX11_depth_39 (by decide) ?_
        refine lv_istore_n (lv' := [(3, .int 0), (0, .ref a), (1, .int p0), (2, .int p1)]) hx hb dX11_depth_40 rfl hl (by decide) rfl (fun ls hl => ?_)
        refine lv_iload_n hx hb dX11_depth_41 rfl (lv_at hl 3 rfl) ?_
        refine lv_istore (lv' := [(4, .int p1), (3, .int 0), (0, .ref a), (1, .int p0), (2, .int p1)]) hx hb dX11_depth_42 hl (by decide) rfl (fun ls hl => ?_)
        have L44 : ∀ (N19 : Nat) (x17 : Int32) (x18 : Int32) (H : Heap) (locs : List Loc) (ls : Array Slot), 0 ≤ x18.toInt ∧ x18.toInt ≤ 29 → (0 : Int) ≤ x17.toInt → 2147483648 - x17.toInt < ((N19 : Nat) : Int) → TW E K F (tl, [0, z1, z2, z3, z4, z5, z6, z7, z8, z9, z10, z11, z12, z13, z14, z15, z16, z17, z18, z19, z20], [ar0, ar1, ar2, ar3, ar4, ar5, ar6, ar7, ar8, ar9, ar10]) [] H → va_S (xA E) s.heap H locs → lv_has ls 6 [(0, .ref a), (1, .int p0), (3, .int x17), (4, .int x18)] → W p l e rm_X11_depth s m args below meth c H locs 0 0 Q (F0 m 44 ls []) := by
          intro N19
          induction N19 with
          | zero =>
            intro x17 x18 H locs ls hf20 hf21 hm22
            exact absurd hm22 (z_X11_depth_4 x17.toInt hf21 (xr x17))
          | succ N19 ih23 =>
            intro x17 x18 H locs ls hf20 hf21 hm22 hT hS hl
            refine lv_iload_n hx hb dX11_depth_44 rfl (lv_at hl 2 rfl) ?_
            refine lv_bipush (v := 30) hx hb dX11_depth_45 (by decide) ?_
            refine xi_cgt (tgt := 104) hx hb (rfl : Int32.toInt x17 = x17.toInt) ((by decide) : Int32.toInt 30 = (30 : Int)) dX11_depth_47 (by decide) (fun c24 => ?_) (fun c24 => ?_)
            · refine lv_bipush (v := (-2)) hx hb dX11_depth_104 (by decide) ?_
              exact x_ri hx hb hr hlk hQ (Nat.le_of_ble_eq_true rfl) (Nat.le_of_ble_eq_true rfl) hS dX11_depth_106 (0) ⟨_, rfl⟩ hT.nil
            · refine lv_aload_n hx hb dX11_depth_50 rfl (lv_at hl 0 rfl) ?_
              refine gX11_1 S hK hT ha kf_X11_9 dX11_depth_51 (fun hk25 => ?_)
              refine lv_aload_n hx hb dX11_depth_54 rfl (lv_at hl 0 rfl) ?_
              refine lv_iload_n hx hb dX11_depth_55 rfl (lv_at hl 1 rfl) ?_
              refine lv_iconst (v := 1) hx hb dX11_depth_56 (by decide) ?_
              refine x_clp (x_runV (b := a) (As := [.int p0, .int 1]) (rest := [.ref (F a 1)]) S (c_X11_of l E K F tl 0 z1 z2 z3 z4 z5 z6 z7 z8 z9 z10 z11 z12 z13 z14 z15 z16 z17 z18 z19 z20 ar0 ar1 ar2 ar3 ar4 ar5 ar6 ar7 ar8 ar9 ar10 H a p0 1 ha (z_X11_depth_5 p0.toInt p1.toInt x11.toInt x14.toInt x2.toInt x6.toInt (aI ar0 (4 * (30 * x11.toInt + p1.toInt))) (aI ar1 (10 * p0.toInt + (0 : Int))) (aI ar1 (10 * p0.toInt + (1 : Int))) (aI ar1 (10 * p0.toInt + (2 : Int))) (aI ar1 (10 * p0.toInt + (3 : Int))) t1 (xbz b3) c4 t5 v8 c9 t10 t13 (xbz b15) c16 (xr p0) (xr p1) (xr x11) (xr x14) (xr x2) (xr x6)) (by decide)) mv_X11_of km_X11_165 rfl rfl ⟨Nat.le_of_ble_eq_true rfl, Nat.le_of_ble_eq_true rfl⟩ (rc_13 hK hT ha) hK (fun _ => XPh.blind) (fun U hU hW => XPh.at hK hz hS hT hU hW) rfl hl.1 (Nat.le_of_ble_eq_true rfl) dX11_depth_57 ⟨Nat.le_of_ble_eq_true rfl, Nat.le_of_ble_eq_true rfl⟩) hS ?_
              rintro _ _ locs ⟨x27, rfl, t26⟩ hS
              have t26 : x27.toInt = (aI ar1 (10 * p0.toInt + (1 : Int))) := t26
              refine lv_iload hx hb dX11_depth_60 (lv_at hl 3 rfl) ?_
              refine x_clp (x_runS (As := [.int x27, .int x18]) (rest := [.ref (F a 1)]) S (c_X11_at l E K F tl 0 z1 z2 z3 z4 z5 z6 z7 z8 z9 z10 z11 z12 z13 z14 z15 z16 z17 z18 z19 z20 ar0 ar1 ar2 ar3 ar4 ar5 ar6 ar7 ar8 ar9 ar10 H x27 x18) ms_X11_at km_X11_156 rfl rfl ⟨Nat.le_of_ble_eq_true rfl, Nat.le_of_ble_eq_true rfl⟩ hK (fun _ => XPh.blind) (fun U hU hW => XPh.at hK hz hS hT hU hW) rfl hl.1 (Nat.le_of_ble_eq_true rfl) dX11_depth_62 ⟨Nat.le_of_ble_eq_true rfl, Nat.le_of_ble_eq_true rfl⟩) hS ?_
              rintro _ _ locs ⟨x30, rfl, t29⟩ hS
              have t29 : 0 ≤ x27.toInt ∧ x27.toInt ≤ 2 ∧ 0 ≤ x18.toInt ∧ x18.toInt ≤ 29 → x30.toInt = 4 * (30 * x27.toInt + x18.toInt) := t29
              refine lv_iconst (v := 1) hx hb dX11_depth_65 (by decide) ?_
              refine xi_iadd hx hb (rfl : Int32.toInt x30 = x30.toInt) ((by decide) : Int32.toInt 1 = (1 : Int)) dX11_depth_66 (fun x32 t33 => ?_)
              refine lv_aload_n hx hb dX11_depth_67 rfl (lv_at hl 0 rfl) ?_
              refine lv_iload_n hx hb dX11_depth_68 rfl (lv_at hl 1 rfl) ?_
              refine lv_iconst (v := 2) hx hb dX11_depth_69 (by decide) ?_
              refine x_clp (x_runV (b := a) (As := [.int p0, .int 2]) (rest := [.int x32, .ref (F a 1)]) S (c_X11_of l E K F tl 0 z1 z2 z3 z4 z5 z6 z7 z8 z9 z10 z11 z12 z13 z14 z15 z16 z17 z18 z19 z20 ar0 ar1 ar2 ar3 ar4 ar5 ar6 ar7 ar8 ar9 ar10 H a p0 2 ha (z_X11_depth_6 p0.toInt p1.toInt x11.toInt x14.toInt x18.toInt x2.toInt x27.toInt x30.toInt x32.toInt x6.toInt (aI ar0 (4 * (30 * x11.toInt + p1.toInt))) (aI ar1 (10 * p0.toInt + (0 : Int))) (aI ar1 (10 * p0.toInt + (1 : Int))) (aI ar1 (10 * p0.toInt + (2 : Int))) (aI ar1 (10 * p0.toInt + (3 : Int))) t1 (xbz b3) c4 t5 v8 c9 t10 t13 (xbz b15) c16 hf20 t26 t29 t33 (xr p0) (xr p1) (xr x11) (xr x14) (xr x18) (xr x2) (xr x27) (xr x30) (xr x32) (xr x6)) (by decide)) mv_X11_of km_X11_165 rfl rfl ⟨Nat.le_of_ble_eq_true rfl, Nat.le_of_ble_eq_true rfl⟩ (rc_13 hK hT ha) hK (fun _ => XPh.blind) (fun U hU hW => XPh.at hK hz hS hT hU hW) rfl hl.1 (Nat.le_of_ble_eq_true rfl) dX11_depth_70 ⟨Nat.le_of_ble_eq_true rfl, Nat.le_of_ble_eq_true rfl⟩) hS ?_
              rintro _ _ locs ⟨x35, rfl, t34⟩ hS
              have t34 : x35.toInt = (aI ar1 (10 * p0.toInt + (2 : Int))) := t34
              refine xi_iadd hx hb (rfl : Int32.toInt x32 = x32.toInt) (rfl : Int32.toInt x35 = x35.toInt) dX11_depth_73 (fun x37 t38 => ?_)
              refine tld_0 S hK hT hk25 (at_30 (f := ar0) rfl) (by decide) (z_X11_depth_7 p0.toInt p1.toInt x11.toInt x14.toInt x18.toInt x2.toInt x27.toInt x30.toInt x32.toInt x35.toInt x37.toInt x6.toInt (aI ar0 (4 * (30 * x11.toInt + p1.toInt))) (aI ar1 (10 * p0.toInt + (0 : Int))) (aI ar1 (10 * p0.toInt + (1 : Int))) (aI ar1 (10 * p0.toInt + (2 : Int))) (aI ar1 (10 * p0.toInt + (3 : Int))) t1 (xbz b3) c4 t5 v8 c9 t10 t13 (xbz b15) c16 hf20 t26 t29 t33 t34 t38 (xr p0) (xr p1) (xr x11) (xr x14) (xr x18) (xr x2) (xr x27) (xr x30) (xr x32) (xr x35) (xr x37) (xr x6)) dX11_depth_74 (fun x39 w40 o41 => ?_)
              refine lv_istore (lv' := [(5, .int x39), (0, .ref a), (1, .int p0), (3, .int x17), (4, .int x18)]) hx hb dX11_depth_75 hl (by decide) rfl (fun ls hl => ?_)
              refine lv_aload_n hx hb dX11_depth_77 rfl (lv_at hl 1 rfl) ?_
              refine lv_aload_n hx hb dX11_depth_78 rfl (lv_at hl 1 rfl) ?_
              refine lv_iload_n hx hb dX11_depth_79 rfl (lv_at hl 2 rfl) ?_
              refine lv_iconst (v := 1) hx hb dX11_depth_80 (by decide) ?_
              refine x_clp (x_runV (b := a) (As := [.int p0, .int 1]) (rest := [.ref a]) S (c_X11_of l E K F tl 0 z1 z2 z3 z4 z5 z6 z7 z8 z9 z10 z11 z12 z13 z14 z15 z16 z17 z18 z19 z20 ar0 ar1 ar2 ar3 ar4 ar5 ar6 ar7 ar8 ar9 ar10 H a p0 1 ha (z_X11_depth_8 p0.toInt p1.toInt x11.toInt x14.toInt x18.toInt x2.toInt x27.toInt x30.toInt x32.toInt x35.toInt x37.toInt x6.toInt (aI ar0 (4 * (30 * x11.toInt + p1.toInt))) (aI ar1 (10 * p0.toInt + (0 : Int))) (aI ar1 (10 * p0.toInt + (1 : Int))) (aI ar1 (10 * p0.toInt + (2 : Int))) (aI ar1 (10 * p0.toInt + (3 : Int))) t1 (xbz b3) c4 t5 v8 c9 t10 t13 (xbz b15) c16 hf20 t26 t29 t33 t34 t38 (xr p0) (xr p1) (xr x11) (xr x14) (xr x18) (xr x2) (xr x27) (xr x30) (xr x32) (xr x35) (xr x37) (xr x6)) (by decide)) mv_X11_of km_X11_165 rfl rfl ⟨Nat.le_of_ble_eq_true rfl, Nat.le_of_ble_eq_true rfl⟩ (rc_13 hK hT ha) hK (fun _ => XPh.blind) (fun U hU hW => XPh.at hK hz hS hT hU hW) rfl hl.1 (Nat.le_of_ble_eq_true rfl) dX11_depth_81 ⟨Nat.le_of_ble_eq_true rfl, Nat.le_of_ble_eq_true rfl⟩) hS ?_
              rintro _ _ locs ⟨x44, rfl, t43⟩ hS
              have t43 : x44.toInt = (aI ar1 (10 * p0.toInt + (1 : Int))) := t43
              refine lv_iload hx hb dX11_depth_84 (lv_at hl 0 rfl) ?_
              refine x_clp (x_runV (b := a) (As := [.int x44, .int x39]) (rest := []) S (c_X11_isRow l E K F tl 0 z1 z2 z3 z4 z5 z6 z7 z8 z9 z10 z11 z12 z13 z14 z15 z16 z17 z18 z19 z20 ar0 ar1 ar2 ar3 ar4 ar5 ar6 ar7 ar8 ar9 ar10 H a x44 x39 ha) mv_X11_isRow km_X11_346 rfl rfl ⟨Nat.le_of_ble_eq_true rfl, Nat.le_of_ble_eq_true rfl⟩ (rc_13 hK hT ha) hK (fun _ => XPh.blind) (fun U hU hW => XPh.at hK hz hS hT hU hW) rfl hl.1 (Nat.le_of_ble_eq_true rfl) dX11_depth_86 ⟨Nat.le_of_ble_eq_true rfl, Nat.le_of_ble_eq_true rfl⟩) hS ?_
              rintro _ _ locs ⟨x47, rfl, b48, t46⟩ hS
              have t46 : x47.toInt = 0 ∨ (x47.toInt = 1 ∧ 0 ≤ x44.toInt ∧ x44.toInt ≤ 2 ∧ 0 ≤ x39.toInt ∧ x39.toInt ≤ 29 ∧ (aI ar0 (4 * (30 * x44.toInt + x39.toInt))) = 1) := t46
              refine xi_zne (tgt := 94) hx hb (rfl : Int32.toInt x47 = x47.toInt) dX11_depth_89 (by decide) (fun c49 => ?_) (fun c49 => ?_)
              · refine xi_iinc (n := 1) (lv' := fun z9 => [(3, .int z9), (5, .int x39), (0, .ref a), (1, .int p0), (4, .int x18)]) (k := 3) hx hb (rfl : Int32.toInt x17 = x17.toInt) (by decide) dX11_depth_94 hl rfl (by decide) (fun _ => rfl) (fun x50 ls t51 hl => ?_)
                have hl : lv_has ls 6 [(3, .int x50), (5, .int x39), (0, .ref a), (1, .int p0), (4, .int x18)] := hl
                refine lv_iload hx hb dX11_depth_97 (lv_at hl 1 rfl) ?_
                refine lv_istore (lv' := [(4, .int x39), (3, .int x50), (5, .int x39), (0, .ref a), (1, .int p0)]) hx hb dX11_depth_99 hl (by decide) rfl (fun ls hl => ?_)
                refine lv_goto (tgt := 44) hx hb dX11_depth_101 (by decide) ?_
                exact ih23 x50 x39 _ _ _ (z_X11_depth_9 p0.toInt p1.toInt x11.toInt x14.toInt x18.toInt x2.toInt x27.toInt x30.toInt x32.toInt x35.toInt x37.toInt x39.toInt x44.toInt x47.toInt x6.toInt (aI ar0 (4 * (30 * x11.toInt + p1.toInt))) (aI ar0 (4 * (30 * x44.toInt + x39.toInt))) (aI ar0 x37.toInt) (aI ar1 (10 * p0.toInt + (0 : Int))) (aI ar1 (10 * p0.toInt + (1 : Int))) (aI ar1 (10 * p0.toInt + (2 : Int))) (aI ar1 (10 * p0.toInt + (3 : Int))) t1 (xbz b3) c4 t5 v8 c9 t10 t13 (xbz b15) c16 hf20 t26 t29 t33 t34 t38 w40 t43 t46 (xbz b48) c49 (xr p0) (xr p1) (xr x11) (xr x14) (xr x18) (xr x2) (xr x27) (xr x30) (xr x32) (xr x35) (xr x37) (xr x39) (xr x44) (xr x47) (xr x6)) (z_X11_depth_10 x17.toInt x50.toInt N19 hf21 hm22 c24 t51 (xr x17) (xr x50)) (z_X11_depth_11 x17.toInt x50.toInt N19 hf21 hm22 c24 t51 (xr x17) (xr x50)) hT.nil hS (lv_sub hl [3, 4, 1, 0] rfl)
              · refine lv_iload_n hx hb dX11_depth_92 rfl (lv_at hl 3 rfl) ?_
                exact x_ri hx hb hr hlk hQ (Nat.le_of_ble_eq_true rfl) (Nat.le_of_ble_eq_true rfl) hS dX11_depth_93 (0) ⟨_, rfl⟩ hT.nil
        exact L44 4294967297 0 p1 _ _ _ (z_X11_depth_12 p0.toInt p1.toInt x11.toInt x14.toInt x2.toInt x6.toInt (aI ar0 (4 * (30 * x11.toInt + p1.toInt))) (aI ar1 (10 * p0.toInt + (0 : Int))) (aI ar1 (10 * p0.toInt + (1 : Int))) (aI ar1 (10 * p0.toInt + (2 : Int))) (aI ar1 (10 * p0.toInt + (3 : Int))) t1 (xbz b3) c4 t5 v8 c9 t10 t13 (xbz b15) c16 (xr p0) (xr p1) (xr x11) (xr x14) (xr x2) (xr x6)) (by decide) (by decide) hT.nil hS (lv_sub hl [2, 3, 1, 0] rfl)
      · refine lv_iconst (v := (-1)) hx hb dX11_depth_37 (by decide) ?_
        exact x_ri hx hb hr hlk hQ (Nat.le_of_ble_eq_true rfl) (Nat.le_of_ble_eq_true rfl) hS dX11_depth_38 (0) ⟨_, rfl⟩ hT.nil

theorem z_X11_since_1 (a0 : Int) (a1 : Int) (h0 : (a1 = 1 ∧ (0 : Int) ≤ a0 ∧ a0 ≤ (6 : Int)) ∨ (a1 = 0 ∧ (a0 < (0 : Int) ∨ (6 : Int) < a0))) (h1 : a1 ≠ 0) (h2 : a0 ≠ (6 : Int)) (r0 : -2147483648 ≤ a0 ∧ a0 < 2147483648) (r1 : -2147483648 ≤ a1 ∧ a1 < 2147483648) : 0 ≤ a0 ∧ a0 < ((6 : Nat) : Int) := by omega
abbrev rm_X11_since : Room := { frames := 1, cells := 0, slots := 0, locals := 25 }
set_option maxHeartbeats 4000000 in
set_option maxRecDepth 100000 in
theorem c_X11_since (l : Launch) (E : XE) (K : Nat → Nat) (F : Nat → Nat → Nat) (tl z0 z1 z2 z3 z4 z5 z6 z7 z8 z9 z10 z11 z12 z13 z14 z15 z16 z17 z18 z19 z20 : Int32) (ar0 ar1 ar2 ar3 ar4 ar5 ar6 ar7 ar8 ar9 ar10 : Nat → Int32) (a : Nat) (p0 : Int32) (ha : K a = 13) : Met l yX11_since (xw yX11_since cX11_since 2 (some .int)) rm_X11_since (va_Pc [.ref a, .int p0] (XP E K F (tl, [z0, z1, z2, z3, z4, z5, z6, z7, z8, z9, z10, z11, z12, z13, z14, z15, z16, z17, z18, z19, z20], [ar0, ar1, ar2, ar3, ar4, ar5, ar6, ar7, ar8, ar9, ar10]))) (XQ E (fun v (u : Int32) => ∃ r : Int32, v = .int r) (fun u H => TW E K F (tl, [u, z1, z2, z3, z4, z5, z6, z7, z8, z9, z10, z11, z12, z13, z14, z15, z16, z17, z18, z19, z20], [ar0, ar1, ar2, ar3, ar4, ar5, ar6, ar7, ar8, ar9, ar10]) [] H)) 0 0 (xA E) := by
  refine x_enter (by decide) (Nat.le_of_ble_eq_true rfl) ?_
  intro p e s m args below meth c Q S hr hlk hnm hQ hP ls hl
  obtain ⟨hz, hK, hT⟩ := hP
  obtain ⟨hx, hb, -, -, -⟩ := id S
  obtain ⟨H, hT, hS, hgo⟩ : ∃ H : Heap, TW E K F (tl, [z0, z1, z2, z3, z4, z5, z6, z7, z8, z9, z10, z11, z12, z13, z14, z15, z16, z17, z18, z19, z20], [ar0, ar1, ar2, ar3, ar4, ar5, ar6, ar7, ar8, ar9, ar10]) [] H ∧ va_S (xA E) s.heap H [] ∧ H = s.heap := ⟨_, hT, va_S.rf, rfl⟩
  rw [← hgo]
  have hl : lv_has ls 2 [(0, .ref a), (1, .int p0)] := hl
  refine lv_aload_n hx hb dX11_since_0 rfl (lv_at hl 0 rfl) ?_
  refine lv_iconst (v := 0) hx hb dX11_since_1 (by decide) ?_
  refine pX11_0 (kq := []) (v := 0) S hK hT hS ha kf_X11_134 (Nat.le_of_ble_eq_true rfl) dX11_since_2 (fun _ h => by cases h) (fun H locs hT hS => ?_)
  have hT : TW E K F (tl, [0, z1, z2, z3, z4, z5, z6, z7, z8, z9, z10, z11, z12, z13, z14, z15, z16, z17, z18, z19, z20], [ar0, ar1, ar2, ar3, ar4, ar5, ar6, ar7, ar8, ar9, ar10]) [] H := hT
  refine lv_aload_n hx hb dX11_since_5 rfl (lv_at hl 0 rfl) ?_
  refine gX11_6 S hK hT ha kf_X11_206 dX11_since_6 (v := z1) rfl ?_
  have J24 : ∀ (H : Heap) (locs : List Loc) (ls : Array Slot), TW E K F (tl, [0, z1, z2, z3, z4, z5, z6, z7, z8, z9, z10, z11, z12, z13, z14, z15, z16, z17, z18, z19, z20], [ar0, ar1, ar2, ar3, ar4, ar5, ar6, ar7, ar8, ar9, ar10]) [] H → va_S (xA E) s.heap H locs → lv_has ls 2 [] → W p l e rm_X11_since s m args below meth c H locs 0 0 Q (F0 m 24 ls []) := by
    intro H locs ls hT hS hl
    refine lv_iconst (v := (-1)) hx hb dX11_since_24 (by decide) ?_
    refine lv_goto (tgt := 47) hx hb dX11_since_25 (by decide) ?_
    exact x_ri hx hb hr hlk hQ (Nat.le_of_ble_eq_true rfl) (Nat.le_of_ble_eq_true rfl) hS dX11_since_47 (0) ⟨_, rfl⟩ hT.nil
  refine xi_zeq (tgt := 24) hx hb (rfl : Int32.toInt z1 = z1.toInt) dX11_since_9 (by decide) (fun c1 => ?_) (fun c1 => ?_)
  · exact J24 _ _ _ hT.nil hS (lv_sub hl [] rfl)
  · refine lv_iload_n hx hb dX11_since_12 rfl (lv_at hl 1 rfl) ?_
    refine lv_i2l (v := p0.toInt64) hx hb dX11_since_13 rfl ?_
    refine lv_lconst (v := (0 : Int64)) hx hb dX11_since_14 (by decide) ?_
    refine lv_ldc2 (v := 6) hx hb S.2.2.2.1 (S.2.2.2.2 _ (List.mem_cons_of_mem _ kc_X11_396)) dX11_since_15 ?_
    refine x_clp (x_runS (As := [.long p0.toInt64, .long (0 : Int64), .long (6 : Int64)]) (rest := []) S (c_X11_in l E K F tl 0 z1 z2 z3 z4 z5 z6 z7 z8 z9 z10 z11 z12 z13 z14 z15 z16 z17 z18 z19 z20 ar0 ar1 ar2 ar3 ar4 ar5 ar6 ar7 ar8 ar9 ar10 H p0.toInt64 (0 : Int64) (6 : Int64) p0.toInt (0 : Int) (6 : Int) (xl_i2l (rfl : Int32.toInt p0 = p0.toInt)) (by decide) (by decide)) ms_X11_in km_X11_139 rfl rfl ⟨Nat.le_of_ble_eq_true rfl, Nat.le_of_ble_eq_true rfl⟩ hK (fun _ => XPh.blind) (fun U hU hW => XPh.at hK hz hS hT hU hW) rfl hl.1 (Nat.le_of_ble_eq_true rfl) dX11_since_18 ⟨Nat.le_of_ble_eq_true rfl, Nat.le_of_ble_eq_true rfl⟩) hS ?_
    rintro _ _ locs ⟨x2, rfl, b3, t4⟩ hS
    have t4 : (x2.toInt = 1 ∧ (0 : Int) ≤ p0.toInt ∧ p0.toInt ≤ (6 : Int)) ∨ (x2.toInt = 0 ∧ (p0.toInt < (0 : Int) ∨ (6 : Int) < p0.toInt)) := t4
    refine xi_zne (tgt := 28) hx hb (rfl : Int32.toInt x2 = x2.toInt) dX11_since_21 (by decide) (fun c5 => ?_) (fun c5 => ?_)
    · refine lv_iload_n hx hb dX11_since_28 rfl (lv_at hl 1 rfl) ?_
      refine lv_bipush (v := 6) hx hb dX11_since_29 (by decide) ?_
      refine xi_cne (tgt := 41) hx hb (rfl : Int32.toInt p0 = p0.toInt) ((by decide) : Int32.toInt 6 = (6 : Int)) dX11_since_31 (by decide) (fun c6 => ?_) (fun c6 => ?_)
      · refine lv_aload_n hx hb dX11_since_41 rfl (lv_at hl 0 rfl) ?_
        refine gX11_8 S hK hT ha kf_X11_27 dX11_since_42 (fun hk7 => ?_)
        refine lv_iload_n hx hb dX11_since_45 rfl (lv_at hl 1 rfl) ?_
        refine al_0 S hK hT hk7 ar_35 (by decide) (z_X11_since_1 p0.toInt x2.toInt t4 c5 c6 (xr p0) (xr x2)) dX11_since_46 (fun x8 o9 => ?_)
        exact x_ri hx hb hr hlk hQ (Nat.le_of_ble_eq_true rfl) (Nat.le_of_ble_eq_true rfl) hS dX11_since_47 (0) ⟨_, rfl⟩ hT.nil
      · refine lv_aload_n hx hb dX11_since_34 rfl (lv_at hl 0 rfl) ?_
        refine gX11_7 S hK hT ha kf_X11_373 dX11_since_35 (v := z2) rfl ?_
        refine lv_goto (tgt := 47) hx hb dX11_since_38 (by decide) ?_
        exact x_ri hx hb hr hlk hQ (Nat.le_of_ble_eq_true rfl) (Nat.le_of_ble_eq_true rfl) hS dX11_since_47 (0) ⟨_, rfl⟩ hT.nil
    · exact J24 _ _ _ hT.nil hS (lv_sub hl [] rfl)

theorem z_X11_lateMany_1 (a0 : Int) (h0 : (0 : Int) ≤ a0) (r0 : -2147483648 ≤ a0 ∧ a0 < 2147483648) : ¬ (2147483648 - a0 < ((0 : Nat) : Int)) := by omega
theorem z_X11_lateMany_2 (a0 : Int) (a1 : Int) (a2 : Int) (a3 : Nat) (a4 : Int) (h0 : (0 : Int) ≤ a1) (h1 : 2147483648 - a1 < ((a3 + 1 : Nat) : Int)) (h2 : ¬ ((12 : Int) ≤ a1)) (h3 : a2 = 0 ∨ (a2 = 1 ∧ 0 ≤ a1 ∧ a1 ≤ 11 ∧ 0 ≤ a4)) (h4 : a2 = 0 ∨ a2 = 1) (h5 : a0 = a1 + 1 ∨ a1 + 1 < -2147483648 ∨ 2147483648 ≤ a1 + 1) (r0 : -2147483648 ≤ a0 ∧ a0 < 2147483648) (r1 : -2147483648 ≤ a1 ∧ a1 < 2147483648) (r2 : -2147483648 ≤ a2 ∧ a2 < 2147483648) : (0 : Int) ≤ a0 := by first | (clear h0 h1 h2 h3 h4; omega) | (clear h4; omega) | omega
theorem z_X11_lateMany_3 (a0 : Int) (a1 : Int) (a2 : Int) (a3 : Nat) (a4 : Int) (h0 : (0 : Int) ≤ a1) (h1 : 2147483648 - a1 < ((a3 + 1 : Nat) : Int)) (h2 : ¬ ((12 : Int) ≤ a1)) (h3 : a2 = 0 ∨ (a2 = 1 ∧ 0 ≤ a1 ∧ a1 ≤ 11 ∧ 0 ≤ a4)) (h4 : a2 = 0 ∨ a2 = 1) (h5 : a0 = a1 + 1 ∨ a1 + 1 < -2147483648 ∨ 2147483648 ≤ a1 + 1) (r0 : -2147483648 ≤ a0 ∧ a0 < 2147483648) (r1 : -2147483648 ≤ a1 ∧ a1 < 2147483648) (r2 : -2147483648 ≤ a2 ∧ a2 < 2147483648) : 2147483648 - a0 < ((a3 : Nat) : Int) := by first | (clear h0 h2 h3 h4; omega) | (clear h4; omega) | omega
theorem z_X11_lateMany_4 (a0 : Int) (a1 : Int) (a2 : Nat) (a3 : Int) (h0 : (0 : Int) ≤ a0) (h1 : 2147483648 - a0 < ((a2 + 1 : Nat) : Int)) (h2 : ¬ ((12 : Int) ≤ a0)) (h3 : a1 = 0 ∨ (a1 = 1 ∧ 0 ≤ a0 ∧ a0 ≤ 11 ∧ 0 ≤ a3)) (h4 : a1 = 0 ∨ a1 = 1) (h5 : ¬ (a1 = 0)) (r0 : -2147483648 ≤ a0 ∧ a0 < 2147483648) (r1 : -2147483648 ≤ a1 ∧ a1 < 2147483648) : 0 ≤ a0 ∧ a0 ≤ 11 := by first | (clear h4 h5; omega) | omega
theorem z_X11_lateMany_5 (a0 : Int) (a1 : Int) (a2 : Nat) (a3 : Int) (h0 : (0 : Int) ≤ a0) (h1 : 2147483648 - a0 < ((a2 + 1 : Nat) : Int)) (h2 : ¬ ((12 : Int) ≤ a0)) (h3 : a1 = 0 ∨ (a1 = 1 ∧ 0 ≤ a0 ∧ a0 ≤ 11 ∧ 0 ≤ a3)) (h4 : a1 = 0 ∨ a1 = 1) (h5 : ¬ (a1 = 0)) (r0 : -2147483648 ≤ a0 ∧ a0 < 2147483648) (r1 : -2147483648 ≤ a1 ∧ a1 < 2147483648) : 0 ≤ a0 ∧ a0 ≤ 11 := by first | (clear h4 h5; omega) | omega
abbrev rm_X11_lateMany : Room := { frames := 2, cells := 0, slots := 0, locals := 46 }
set_option maxHeartbeats 4000000 in
set_option maxRecDepth 100000 in
theorem c_X11_lateMany (l : Launch) (E : XE) (K : Nat → Nat) (F : Nat → Nat → Nat) (tl z0 z1 z2 z3 z4 z5 z6 z7 z8 z9 z10 z11 z12 z13 z14 z15 z16 z17 z18 z19 z20 : Int32) (ar0 ar1 ar2 ar3 ar4 ar5 ar6 ar7 ar8 ar9 ar10 : Nat → Int32) (h0 : Heap) (a : Nat) (ha : K a = 13) (hR : RV ar1) : Met l yX11_lateMany (xw yX11_lateMany cX11_lateMany 3 (some .int)) rm_X11_lateMany (va_Pc [.ref a] (XPh E K F (tl, [z0, z1, z2, z3, z4, z5, z6, z7, z8, z9, z10, z11, z12, z13, z14, z15, z16, z17, z18, z19, z20], [ar0, ar1, ar2, ar3, ar4, ar5, ar6, ar7, ar8, ar9, ar10]) h0)) (XQ E (fun v (u : Unit) => ∃ r : Int32, v = .int r) (fun _ H => H = h0)) 0 0 (xA E) := by
  refine x_enter (by decide) (Nat.le_of_ble_eq_true rfl) ?_
  intro p e s m args below meth c Q S hr hlk hnm hQ hP ls hl
  obtain ⟨⟨hz, hK, hT⟩, hh⟩ := hP
  obtain ⟨hx, hb, -, -, -⟩ := id S
  have hS : va_S (xA E) s.heap s.heap [] := va_S.rf
  have hl : lv_has ls 3 [(0, .ref a)] := hl
  refine lv_iconst (v := 0) hx hb dX11_lateMany_0 (by decide) ?_
  refine lv_istore_n (lv' := [(1, .int 0), (0, .ref a)]) hx hb dX11_lateMany_1 rfl hl (by decide) rfl (fun ls hl => ?_)
  refine lv_iconst (v := 0) hx hb dX11_lateMany_2 (by decide) ?_
  refine lv_istore_n (lv' := [(2, .int 0), (1, .int 0), (0, .ref a)]) hx hb dX11_lateMany_3 rfl hl (by decide) rfl (fun ls hl => ?_)
  have L4 : ∀ (N3 : Nat) (x1 : Int32) (x2 : Int32) (locs : List Loc) (ls : Array Slot), (0 : Int) ≤ x2.toInt → 2147483648 - x2.toInt < ((N3 : Nat) : Int) → TW E K F (tl, [z0, z1, z2, z3, z4, z5, z6, z7, z8, z9, z10, z11, z12, z13, z14, z15, z16, z17, z18, z19, z20], [ar0, ar1, ar2, ar3, ar4, ar5, ar6, ar7, ar8, ar9, ar10]) [] s.heap → va_S (xA E) s.heap s.heap locs → lv_has ls 3 [(0, .ref a), (1, .int x1), (2, .int x2)] → W p l e rm_X11_lateMany s m args below meth c s.heap locs 0 0 Q (F0 m 4 ls []) := by
    intro N3
    induction N3 with
    | zero =>
      intro x1 x2 locs ls hf4 hm5
      exact absurd hm5 (z_X11_lateMany_1 x2.toInt hf4 (xr x2))
    | succ N3 ih6 =>
      intro x1 x2 locs ls hf4 hm5 hT hS hl
      refine lv_iload_n hx hb dX11_lateMany_4 rfl (lv_at hl 2 rfl) ?_
      refine lv_bipush (v := 12) hx hb dX11_lateMany_5 (by decide) ?_
      refine xi_cge (tgt := 38) hx hb (rfl : Int32.toInt x2 = x2.toInt) ((by decide) : Int32.toInt 12 = (12 : Int)) dX11_lateMany_7 (by decide) (fun c7 => ?_) (fun c7 => ?_)
      · refine lv_iload_n hx hb dX11_lateMany_38 rfl (lv_at hl 1 rfl) ?_
        exact x_ri hx hb hr hlk hQ (Nat.le_of_ble_eq_true rfl) (Nat.le_of_ble_eq_true rfl) hS dX11_lateMany_39 () ⟨_, rfl⟩ hh
      · refine lv_iload_n hx hb dX11_lateMany_10 rfl (lv_at hl 1 rfl) ?_
        refine lv_aload_n hx hb dX11_lateMany_11 rfl (lv_at hl 0 rfl) ?_
        refine lv_iload_n hx hb dX11_lateMany_12 rfl (lv_at hl 2 rfl) ?_
        refine x_clp (x_runV (b := a) (As := [.int x2]) (rest := [.int x1]) S (c_X11_isRule l E K F tl z0 z1 z2 z3 z4 z5 z6 z7 z8 z9 z10 z11 z12 z13 z14 z15 z16 z17 z18 z19 z20 ar0 ar1 ar2 ar3 ar4 ar5 ar6 ar7 ar8 ar9 ar10 s.heap a x2 ha hR) mv_X11_isRule km_X11_162 rfl rfl ⟨Nat.le_of_ble_eq_true rfl, Nat.le_of_ble_eq_true rfl⟩ (rc_13 hK hT ha) hK (fun _ => XPh.blind) (fun U hU hW => XPh.at hK hz hS hT hU hW) rfl hl.1 (Nat.le_of_ble_eq_true rfl) dX11_lateMany_13 ⟨Nat.le_of_ble_eq_true rfl, Nat.le_of_ble_eq_true rfl⟩) hS ?_
        rintro _ _ locs ⟨x9, rfl, b10, t8⟩ hS
        have t8 : x9.toInt = 0 ∨ (x9.toInt = 1 ∧ 0 ≤ x2.toInt ∧ x2.toInt ≤ 11 ∧ 0 ≤ (aI ar1 (10 * x2.toInt + (0 : Int)))) := t8
        have J30 : ∀ (x11 : Int32) (locs : List Loc) (ls : Array Slot), TW E K F (tl, [z0, z1, z2, z3, z4, z5, z6, z7, z8, z9, z10, z11, z12, z13, z14, z15, z16, z17, z18, z19, z20], [ar0, ar1, ar2, ar3, ar4, ar5, ar6, ar7, ar8, ar9, ar10]) [] s.heap → va_S (xA E) s.heap s.heap locs → lv_has ls 3 [(0, .ref a), (2, .int x2)] → W p l e rm_X11_lateMany s m args below meth c s.heap locs 0 0 Q (F0 m 30 ls [.int x11, .int x1]) := by
          intro x11 locs ls hT hS hl
          refine xi_iadd hx hb (rfl : Int32.toInt x1 = x1.toInt) (rfl : Int32.toInt x11 = x11.toInt) dX11_lateMany_30 (fun x12 t13 => ?_)
          refine lv_istore_n (lv' := [(1, .int x12), (0, .ref a), (2, .int x2)]) hx hb dX11_lateMany_31 rfl hl (by decide) rfl (fun ls hl => ?_)
          refine xi_iinc (n := 1) (lv' := fun z9 => [(2, .int z9), (1, .int x12), (0, .ref a)]) (k := 2) hx hb (rfl : Int32.toInt x2 = x2.toInt) (by decide) dX11_lateMany_32 hl rfl (by decide) (fun _ => rfl) (fun x14 ls t15 hl => ?_)
          have hl : lv_has ls 3 [(2, .int x14), (1, .int x12), (0, .ref a)] := hl
          refine lv_goto (tgt := 4) hx hb dX11_lateMany_35 (by decide) ?_
          exact ih6 x12 x14 _ _ (z_X11_lateMany_2 x14.toInt x2.toInt x9.toInt N3 (aI ar1 (10 * x2.toInt + (0 : Int))) hf4 hm5 c7 t8 (xbz b10) t15 (xr x14) (xr x2) (xr x9)) (z_X11_lateMany_3 x14.toInt x2.toInt x9.toInt N3 (aI ar1 (10 * x2.toInt + (0 : Int))) hf4 hm5 c7 t8 (xbz b10) t15 (xr x14) (xr x2) (xr x9)) hT.nil hS (lv_sub hl [2, 1, 0] rfl)
        refine xi_zeq (tgt := 29) hx hb (rfl : Int32.toInt x9 = x9.toInt) dX11_lateMany_16 (by decide) (fun c16 => ?_) (fun c16 => ?_)
        · refine lv_iconst (v := 0) hx hb dX11_lateMany_29 (by decide) ?_
          exact J30 0 _ _ hT.nil hS (lv_sub hl [0, 2] rfl)
        · refine lv_aload_n hx hb dX11_lateMany_19 rfl (lv_at hl 0 rfl) ?_
          refine lv_iload_n hx hb dX11_lateMany_20 rfl (lv_at hl 2 rfl) ?_
          refine lv_bipush (v := 6) hx hb dX11_lateMany_21 (by decide) ?_
          refine x_clp (x_runV (b := a) (As := [.int x2, .int 6]) (rest := [.int x1]) S (c_X11_of l E K F tl z0 z1 z2 z3 z4 z5 z6 z7 z8 z9 z10 z11 z12 z13 z14 z15 z16 z17 z18 z19 z20 ar0 ar1 ar2 ar3 ar4 ar5 ar6 ar7 ar8 ar9 ar10 s.heap a x2 6 ha (z_X11_lateMany_4 x2.toInt x9.toInt N3 (aI ar1 (10 * x2.toInt + (0 : Int))) hf4 hm5 c7 t8 (xbz b10) c16 (xr x2) (xr x9)) (by decide)) mv_X11_of km_X11_165 rfl rfl ⟨Nat.le_of_ble_eq_true rfl, Nat.le_of_ble_eq_true rfl⟩ (rc_13 hK hT ha) hK (fun _ => XPh.blind) (fun U hU hW => XPh.at hK hz hS hT hU hW) rfl hl.1 (Nat.le_of_ble_eq_true rfl) dX11_lateMany_23 ⟨Nat.le_of_ble_eq_true rfl, Nat.le_of_ble_eq_true rfl⟩) hS ?_
          rintro _ _ locs ⟨x18, rfl, t17⟩ hS
          have t17 : x18.toInt = (aI ar1 (10 * x2.toInt + (6 : Int))) := t17
          have v20 : (-1 ≤ (aI ar1 (10 * x2.toInt + (0 : Int))) ∧ (aI ar1 (10 * x2.toInt + (0 : Int))) ≤ 5) ∧ (0 ≤ (aI ar1 (10 * x2.toInt + (1 : Int))) ∧ (aI ar1 (10 * x2.toInt + (1 : Int))) ≤ 2) ∧ (0 ≤ (aI ar1 (10 * x2.toInt + (2 : Int))) ∧ (aI ar1 (10 * x2.toInt + (2 : Int))) ≤ 2) ∧ (-1 ≤ (aI ar1 (10 * x2.toInt + (3 : Int))) ∧ (aI ar1 (10 * x2.toInt + (3 : Int))) ≤ 2) ∧ ((aI ar1 (10 * x2.toInt + (0 : Int))) = 1 ∨ (aI ar1 (10 * x2.toInt + (0 : Int))) = 3 ∨ (aI ar1 (10 * x2.toInt + (0 : Int))) = 4 → 0 ≤ (aI ar1 (10 * x2.toInt + (3 : Int)))) := RV.row hR (z_X11_lateMany_5 x2.toInt x9.toInt N3 (aI ar1 (10 * x2.toInt + (0 : Int))) hf4 hm5 c7 t8 (xbz b10) c16 (xr x2) (xr x9))
          refine lv_goto (tgt := 30) hx hb dX11_lateMany_26 (by decide) ?_
          exact J30 x18 _ _ hT.nil hS (lv_sub hl [0, 2] rfl)
  exact L4 4294967297 0 0 _ _ (by decide) (by decide) hT.nil hS (lv_sub hl [2, 1, 0] rfl)

theorem z_X11_count_1 (a0 : Int) (r0 : -2147483648 ≤ a0 ∧ a0 < 2147483648) : (a0 < 0 ∨ 9 < a0) ∨ (a0 = 0) ∨ (a0 = 1) ∨ (a0 = 2) ∨ (a0 = 3) ∨ (a0 = 4) ∨ (a0 = 5) ∨ (a0 = 6) ∨ (a0 = 7) ∨ (a0 = 8) ∨ (a0 = 9) := by omega
theorem z_X11_count_2 (a0 : Int) (a1 : Int) (a2 : Int) (h0 : a0 < 0 ∨ 9 < a0) (h1 : (a1 = 1 ∧ (4 : Int) ≤ a0 ∧ a0 ≤ (7 : Int)) ∨ (a1 = 0 ∧ (a0 < (4 : Int) ∨ (7 : Int) < a0))) (h2 : ¬ (a1 = 0)) (h3 : a2 = a0 - (4 : Int) ∨ a0 - (4 : Int) < -2147483648 ∨ 2147483648 ≤ a0 - (4 : Int)) (r0 : -2147483648 ≤ a0 ∧ a0 < 2147483648) (r1 : -2147483648 ≤ a1 ∧ a1 < 2147483648) (r2 : -2147483648 ≤ a2 ∧ a2 < 2147483648) : 0 ≤ a2 ∧ a2 < ((4 : Nat) : Int) := by first | (clear h0 h1 h2; omega) | (clear h2; omega) | omega
theorem z_X11_count_3 (a0 : Int) (a1 : Int) (a2 : Int) (h0 : a0 = 4) (h1 : (a1 = 1 ∧ (4 : Int) ≤ a0 ∧ a0 ≤ (7 : Int)) ∨ (a1 = 0 ∧ (a0 < (4 : Int) ∨ (7 : Int) < a0))) (h2 : ¬ (a1 = 0)) (h3 : a2 = a0 - (4 : Int) ∨ a0 - (4 : Int) < -2147483648 ∨ 2147483648 ≤ a0 - (4 : Int)) (r0 : -2147483648 ≤ a0 ∧ a0 < 2147483648) (r1 : -2147483648 ≤ a1 ∧ a1 < 2147483648) (r2 : -2147483648 ≤ a2 ∧ a2 < 2147483648) : 0 ≤ a2 ∧ a2 < ((4 : Nat) : Int) := by first | (clear h0 h1 h2; omega) | (clear h2; omega) | omega
theorem z_X11_count_4 (a0 : Int) (a1 : Int) (a2 : Int) (h0 : a0 = 5) (h1 : (a1 = 1 ∧ (4 : Int) ≤ a0 ∧ a0 ≤ (7 : Int)) ∨ (a1 = 0 ∧ (a0 < (4 : Int) ∨ (7 : Int) < a0))) (h2 : ¬ (a1 = 0)) (h3 : a2 = a0 - (4 : Int) ∨ a0 - (4 : Int) < -2147483648 ∨ 2147483648 ≤ a0 - (4 : Int)) (r0 : -2147483648 ≤ a0 ∧ a0 < 2147483648) (r1 : -2147483648 ≤ a1 ∧ a1 < 2147483648) (r2 : -2147483648 ≤ a2 ∧ a2 < 2147483648) : 0 ≤ a2 ∧ a2 < ((4 : Nat) : Int) := by first | (clear h0 h1 h2; omega) | (clear h2; omega) | omega
theorem z_X11_count_5 (a0 : Int) (a1 : Int) (a2 : Int) (h0 : a0 = 6) (h1 : (a1 = 1 ∧ (4 : Int) ≤ a0 ∧ a0 ≤ (7 : Int)) ∨ (a1 = 0 ∧ (a0 < (4 : Int) ∨ (7 : Int) < a0))) (h2 : ¬ (a1 = 0)) (h3 : a2 = a0 - (4 : Int) ∨ a0 - (4 : Int) < -2147483648 ∨ 2147483648 ≤ a0 - (4 : Int)) (r0 : -2147483648 ≤ a0 ∧ a0 < 2147483648) (r1 : -2147483648 ≤ a1 ∧ a1 < 2147483648) (r2 : -2147483648 ≤ a2 ∧ a2 < 2147483648) : 0 ≤ a2 ∧ a2 < ((4 : Nat) : Int) := by first | (clear h0 h1 h2; omega) | (clear h2; omega) | omega
theorem z_X11_count_6 (a0 : Int) (a1 : Int) (a2 : Int) (h0 : a0 = 7) (h1 : (a1 = 1 ∧ (4 : Int) ≤ a0 ∧ a0 ≤ (7 : Int)) ∨ (a1 = 0 ∧ (a0 < (4 : Int) ∨ (7 : Int) < a0))) (h2 : ¬ (a1 = 0)) (h3 : a2 = a0 - (4 : Int) ∨ a0 - (4 : Int) < -2147483648 ∨ 2147483648 ≤ a0 - (4 : Int)) (r0 : -2147483648 ≤ a0 ∧ a0 < 2147483648) (r1 : -2147483648 ≤ a1 ∧ a1 < 2147483648) (r2 : -2147483648 ≤ a2 ∧ a2 < 2147483648) : 0 ≤ a2 ∧ a2 < ((4 : Nat) : Int) := by first | (clear h0 h1 h2; omega) | (clear h2; omega) | omega
abbrev rm_X11_count : Room := { frames := 6, cells := 0, slots := 0, locals := 142 }
set_option maxHeartbeats 4000000 in
set_option maxRecDepth 100000 in
theorem c_X11_count (l : Launch) (E : XE) (K : Nat → Nat) (F : Nat → Nat → Nat) (tl z0 z1 z2 z3 z4 z5 z6 z7 z8 z9 z10 z11 z12 z13 z14 z15 z16 z17 z18 z19 z20 : Int32) (ar0 ar1 ar2 ar3 ar4 ar5 ar6 ar7 ar8 ar9 ar10 : Nat → Int32) (a : Nat) (p0 : Int32) (ha : K a = 13) (hR : RV ar1) : Met l yX11_count (xw yX11_count cX11_count 2 (some .int)) rm_X11_count (va_Pc [.ref a, .int p0] (XP E K F (tl, [z0, z1, z2, z3, z4, z5, z6, z7, z8, z9, z10, z11, z12, z13, z14, z15, z16, z17, z18, z19, z20], [ar0, ar1, ar2, ar3, ar4, ar5, ar6, ar7, ar8, ar9, ar10]))) (XQ E (fun v (u : Int32 × Int32 × Int32 × (Nat → Int32) × (Nat → Int32) × (Nat → Int32)) => ∃ r : Int32, v = .int r) (fun u H => TW E K F (tl, [u.1, z1, z2, u.2.1, u.2.2.1, z5, z6, z7, z8, z9, z10, z11, z12, z13, z14, z15, z16, z17, z18, z19, z20], [ar0, ar1, u.2.2.2.1, u.2.2.2.2.1, u.2.2.2.2.2, ar5, ar6, ar7, ar8, ar9, ar10]) [] H)) 0 0 (xA E) := by
  refine x_enter (by decide) (Nat.le_of_ble_eq_true rfl) ?_
  intro p e s m args below meth c Q S hr hlk hnm hQ hP ls hl
  obtain ⟨hz, hK, hT⟩ := hP
  obtain ⟨hx, hb, -, -, -⟩ := id S
  obtain ⟨H, hT, hS, hgo⟩ : ∃ H : Heap, TW E K F (tl, [z0, z1, z2, z3, z4, z5, z6, z7, z8, z9, z10, z11, z12, z13, z14, z15, z16, z17, z18, z19, z20], [ar0, ar1, ar2, ar3, ar4, ar5, ar6, ar7, ar8, ar9, ar10]) [] H ∧ va_S (xA E) s.heap H [] ∧ H = s.heap := ⟨_, hT, va_S.rf, rfl⟩
  rw [← hgo]
  have hl : lv_has ls 2 [(0, .ref a), (1, .int p0)] := hl
  refine lv_aload_n hx hb dX11_count_0 rfl (lv_at hl 0 rfl) ?_
  refine lv_iconst (v := 0) hx hb dX11_count_1 (by decide) ?_
  refine pX11_0 (kq := []) (v := 0) S hK hT hS ha kf_X11_134 (Nat.le_of_ble_eq_true rfl) dX11_count_2 (fun _ h => by cases h) (fun H locs hT hS => ?_)
  have hT : TW E K F (tl, [0, z1, z2, z3, z4, z5, z6, z7, z8, z9, z10, z11, z12, z13, z14, z15, z16, z17, z18, z19, z20], [ar0, ar1, ar2, ar3, ar4, ar5, ar6, ar7, ar8, ar9, ar10]) [] H := hT
  refine lv_iload_n hx hb dX11_count_5 rfl (lv_at hl 1 rfl) ?_
  rcases ((z_X11_count_1 p0.toInt (xr p0)) : (p0.toInt < 0 ∨ 9 < p0.toInt) ∨ (p0.toInt = 0) ∨ (p0.toInt = 1) ∨ (p0.toInt = 2) ∨ (p0.toInt = 3) ∨ (p0.toInt = 4) ∨ (p0.toInt = 5) ∨ (p0.toInt = 6) ∨ (p0.toInt = 7) ∨ (p0.toInt = 8) ∨ (p0.toInt = 9)) with c1 | c1 | c1 | c1 | c1 | c1 | c1 | c1 | c1 | c1 | c1
  · refine lv_tableOut (tgt := 98) hx hb dX11_count_6 c1 (by decide) ?_
    refine lv_iload_n hx hb dX11_count_98 rfl (lv_at hl 1 rfl) ?_
    refine lv_i2l (v := p0.toInt64) hx hb dX11_count_99 rfl ?_
    refine lv_ldc2 (v := 4) hx hb S.2.2.2.1 (S.2.2.2.2 _ (List.mem_cons_of_mem _ kc_X11_401)) dX11_count_100 ?_
    refine lv_ldc2 (v := 7) hx hb S.2.2.2.1 (S.2.2.2.2 _ (List.mem_cons_of_mem _ kc_X11_403)) dX11_count_103 ?_
    refine x_clp (x_runS (As := [.long p0.toInt64, .long (4 : Int64), .long (7 : Int64)]) (rest := []) S (c_X11_in l E K F tl 0 z1 z2 z3 z4 z5 z6 z7 z8 z9 z10 z11 z12 z13 z14 z15 z16 z17 z18 z19 z20 ar0 ar1 ar2 ar3 ar4 ar5 ar6 ar7 ar8 ar9 ar10 H p0.toInt64 (4 : Int64) (7 : Int64) p0.toInt (4 : Int) (7 : Int) (xl_i2l (rfl : Int32.toInt p0 = p0.toInt)) (by decide) (by decide)) ms_X11_in km_X11_139 rfl rfl ⟨Nat.le_of_ble_eq_true rfl, Nat.le_of_ble_eq_true rfl⟩ hK (fun _ => XPh.blind) (fun U hU hW => XPh.at hK hz hS hT hU hW) rfl hl.1 (Nat.le_of_ble_eq_true rfl) dX11_count_106 ⟨Nat.le_of_ble_eq_true rfl, Nat.le_of_ble_eq_true rfl⟩) hS ?_
    rintro _ _ locs ⟨x2, rfl, b3, t4⟩ hS
    have t4 : (x2.toInt = 1 ∧ (4 : Int) ≤ p0.toInt ∧ p0.toInt ≤ (7 : Int)) ∨ (x2.toInt = 0 ∧ (p0.toInt < (4 : Int) ∨ (7 : Int) < p0.toInt)) := t4
    refine xi_zeq (tgt := 123) hx hb (rfl : Int32.toInt x2 = x2.toInt) dX11_count_109 (by decide) (fun c5 => ?_) (fun c5 => ?_)
    · refine lv_iconst (v := (-1)) hx hb dX11_count_123 (by decide) ?_
      exact x_ri hx hb hr hlk hQ (Nat.le_of_ble_eq_true rfl) (Nat.le_of_ble_eq_true rfl) hS dX11_count_124 (0, z3, z4, ar2, ar3, ar4) ⟨_, rfl⟩ hT.nil
    · refine lv_aload_n hx hb dX11_count_112 rfl (lv_at hl 0 rfl) ?_
      refine gX11_9 S hK hT ha kf_X11_30 dX11_count_113 (fun hk6 => ?_)
      refine lv_iload_n hx hb dX11_count_116 rfl (lv_at hl 1 rfl) ?_
      refine lv_iconst (v := 4) hx hb dX11_count_117 (by decide) ?_
      refine xi_isub hx hb (rfl : Int32.toInt p0 = p0.toInt) ((by decide) : Int32.toInt 4 = (4 : Int)) dX11_count_118 (fun x7 t8 => ?_)
      refine al_0 S hK hT hk6 ar_36 (by decide) (z_X11_count_2 p0.toInt x2.toInt x7.toInt c1 t4 c5 t8 (xr p0) (xr x2) (xr x7)) dX11_count_119 (fun x9 o10 => ?_)
      refine lv_goto (tgt := 124) hx hb dX11_count_120 (by decide) ?_
      exact x_ri hx hb hr hlk hQ (Nat.le_of_ble_eq_true rfl) (Nat.le_of_ble_eq_true rfl) hS dX11_count_124 (0, z3, z4, ar2, ar3, ar4) ⟨_, rfl⟩ hT.nil
  · refine lv_tableIn (off := 54) (tgt := 60) hx hb dX11_count_6 (by rw [c1]; decide) (by rw [c1]; decide) (by rw [c1]; rfl) (by decide) ?_
    refine lv_aload_n hx hb dX11_count_60 rfl (lv_at hl 0 rfl) ?_
    refine x_clp (x_runV (b := a) (As := []) (rest := []) S (c_X11_ruleMany l E K F tl 0 z1 z2 z3 z4 z5 z6 z7 z8 z9 z10 z11 z12 z13 z14 z15 z16 z17 z18 z19 z20 ar0 ar1 ar2 ar3 ar4 ar5 ar6 ar7 ar8 ar9 ar10 H a ha hR) mv_X11_ruleMany km_X11_303 rfl rfl ⟨Nat.le_of_ble_eq_true rfl, Nat.le_of_ble_eq_true rfl⟩ (rc_13 hK hT ha) hK (fun _ => XPh.blind) (fun U hU hW => XPh.at hK hz hS hT hU hW) rfl hl.1 (Nat.le_of_ble_eq_true rfl) dX11_count_61 ⟨Nat.le_of_ble_eq_true rfl, Nat.le_of_ble_eq_true rfl⟩) hS ?_
    rintro _ _ locs ⟨x11, rfl⟩ hS
    exact x_ri hx hb hr hlk hQ (Nat.le_of_ble_eq_true rfl) (Nat.le_of_ble_eq_true rfl) hS dX11_count_64 (0, z3, z4, ar2, ar3, ar4) ⟨_, rfl⟩ hT.nil
  · refine lv_tableIn (off := 59) (tgt := 65) hx hb dX11_count_6 (by rw [c1]; decide) (by rw [c1]; decide) (by rw [c1]; rfl) (by decide) ?_
    refine lv_aload_n hx hb dX11_count_65 rfl (lv_at hl 0 rfl) ?_
    refine x_clp (x_runV (b := a) (As := []) (rest := []) S (c_X11_rowMany l E K F tl 0 z1 z2 z3 z4 z5 z6 z7 z8 z9 z10 z11 z12 z13 z14 z15 z16 z17 z18 z19 z20 ar0 ar1 ar2 ar3 ar4 ar5 ar6 ar7 ar8 ar9 ar10 H a ha) mv_X11_rowMany km_X11_376 rfl rfl ⟨Nat.le_of_ble_eq_true rfl, Nat.le_of_ble_eq_true rfl⟩ (rc_13 hK hT ha) hK (fun _ => XPh.blind) (fun U hU hW => XPh.at hK hz hS hT hU hW) rfl hl.1 (Nat.le_of_ble_eq_true rfl) dX11_count_66 ⟨Nat.le_of_ble_eq_true rfl, Nat.le_of_ble_eq_true rfl⟩) hS ?_
    rintro _ _ locs ⟨x13, rfl⟩ hS
    exact x_ri hx hb hr hlk hQ (Nat.le_of_ble_eq_true rfl) (Nat.le_of_ble_eq_true rfl) hS dX11_count_69 (0, z3, z4, ar2, ar3, ar4) ⟨_, rfl⟩ hT.nil
  · refine lv_tableIn (off := 64) (tgt := 70) hx hb dX11_count_6 (by rw [c1]; decide) (by rw [c1]; decide) (by rw [c1]; rfl) (by decide) ?_
    refine lv_aload_n hx hb dX11_count_70 rfl (lv_at hl 0 rfl) ?_
    refine x_cl0 (x_runV (b := a) (As := []) (rest := []) S (c_X11_queueMany l E K F tl 0 z1 z2 z3 z4 z5 z6 z7 z8 z9 z10 z11 z12 z13 z14 z15 z16 z17 z18 z19 z20 ar0 ar1 ar2 ar3 ar4 ar5 ar6 ar7 ar8 ar9 ar10 a ha hR) mv_X11_queueMany km_X11_379 rfl rfl ⟨Nat.le_of_ble_eq_true rfl, Nat.le_of_ble_eq_true rfl⟩ (rc_13 hK hT ha) hK (fun _ => XP.blind) (fun U hU hW => XP.at hK hz hS hT hU hW) rfl hl.1 (Nat.le_of_ble_eq_true rfl) dX11_count_71 ⟨Nat.le_of_ble_eq_true rfl, Nat.le_of_ble_eq_true rfl⟩) hS ?_
    rintro _ ⟨u15, u16, f17, f18, f19⟩ H locs ⟨x21, rfl, t20⟩ hT hS
    have hT : TW E K F (tl, [0, z1, z2, u15, u16, z5, z6, z7, z8, z9, z10, z11, z12, z13, z14, z15, z16, z17, z18, z19, z20], [ar0, ar1, f17, f18, f19, ar5, ar6, ar7, ar8, ar9, ar10]) [] H := hT
    have t20 : 0 ≤ u16.toInt ∧ u16.toInt ≤ 2388 ∧ u16.toInt ≤ (((fV ar1 f18 f19) : Nat) : Int) := t20
    exact x_ri hx hb hr hlk hQ (Nat.le_of_ble_eq_true rfl) (Nat.le_of_ble_eq_true rfl) hS dX11_count_74 (0, u15, u16, f17, f18, f19) ⟨_, rfl⟩ hT.nil
  · refine lv_tableIn (off := 69) (tgt := 75) hx hb dX11_count_6 (by rw [c1]; decide) (by rw [c1]; decide) (by rw [c1]; rfl) (by decide) ?_
    refine lv_aload_n hx hb dX11_count_75 rfl (lv_at hl 0 rfl) ?_
    refine gX11_6 S hK hT ha kf_X11_206 dX11_count_76 (v := z1) rfl ?_
    refine xi_zeq (tgt := 86) hx hb (rfl : Int32.toInt z1 = z1.toInt) dX11_count_79 (by decide) (fun c23 => ?_) (fun c23 => ?_)
    · refine lv_iconst (v := 0) hx hb dX11_count_86 (by decide) ?_
      exact x_ri hx hb hr hlk hQ (Nat.le_of_ble_eq_true rfl) (Nat.le_of_ble_eq_true rfl) hS dX11_count_87 (0, z3, z4, ar2, ar3, ar4) ⟨_, rfl⟩ hT.nil
    · refine lv_iconst (v := 1) hx hb dX11_count_82 (by decide) ?_
      refine lv_goto (tgt := 87) hx hb dX11_count_83 (by decide) ?_
      exact x_ri hx hb hr hlk hQ (Nat.le_of_ble_eq_true rfl) (Nat.le_of_ble_eq_true rfl) hS dX11_count_87 (0, z3, z4, ar2, ar3, ar4) ⟨_, rfl⟩ hT.nil
  · refine lv_tableIn (off := 92) (tgt := 98) hx hb dX11_count_6 (by rw [c1]; decide) (by rw [c1]; decide) (by rw [c1]; rfl) (by decide) ?_
    refine lv_iload_n hx hb dX11_count_98 rfl (lv_at hl 1 rfl) ?_
    refine lv_i2l (v := p0.toInt64) hx hb dX11_count_99 rfl ?_
    refine lv_ldc2 (v := 4) hx hb S.2.2.2.1 (S.2.2.2.2 _ (List.mem_cons_of_mem _ kc_X11_401)) dX11_count_100 ?_
    refine lv_ldc2 (v := 7) hx hb S.2.2.2.1 (S.2.2.2.2 _ (List.mem_cons_of_mem _ kc_X11_403)) dX11_count_103 ?_
    refine x_clp (x_runS (As := [.long p0.toInt64, .long (4 : Int64), .long (7 : Int64)]) (rest := []) S (c_X11_in l E K F tl 0 z1 z2 z3 z4 z5 z6 z7 z8 z9 z10 z11 z12 z13 z14 z15 z16 z17 z18 z19 z20 ar0 ar1 ar2 ar3 ar4 ar5 ar6 ar7 ar8 ar9 ar10 H p0.toInt64 (4 : Int64) (7 : Int64) p0.toInt (4 : Int) (7 : Int) (xl_i2l (rfl : Int32.toInt p0 = p0.toInt)) (by decide) (by decide)) ms_X11_in km_X11_139 rfl rfl ⟨Nat.le_of_ble_eq_true rfl, Nat.le_of_ble_eq_true rfl⟩ hK (fun _ => XPh.blind) (fun U hU hW => XPh.at hK hz hS hT hU hW) rfl hl.1 (Nat.le_of_ble_eq_true rfl) dX11_count_106 ⟨Nat.le_of_ble_eq_true rfl, Nat.le_of_ble_eq_true rfl⟩) hS ?_
    rintro _ _ locs ⟨x24, rfl, b25, t26⟩ hS
    have t26 : (x24.toInt = 1 ∧ (4 : Int) ≤ p0.toInt ∧ p0.toInt ≤ (7 : Int)) ∨ (x24.toInt = 0 ∧ (p0.toInt < (4 : Int) ∨ (7 : Int) < p0.toInt)) := t26
    refine xi_zeq (tgt := 123) hx hb (rfl : Int32.toInt x24 = x24.toInt) dX11_count_109 (by decide) (fun c27 => ?_) (fun c27 => ?_)
    · refine lv_iconst (v := (-1)) hx hb dX11_count_123 (by decide) ?_
      exact x_ri hx hb hr hlk hQ (Nat.le_of_ble_eq_true rfl) (Nat.le_of_ble_eq_true rfl) hS dX11_count_124 (0, z3, z4, ar2, ar3, ar4) ⟨_, rfl⟩ hT.nil
    · refine lv_aload_n hx hb dX11_count_112 rfl (lv_at hl 0 rfl) ?_
      refine gX11_9 S hK hT ha kf_X11_30 dX11_count_113 (fun hk28 => ?_)
      refine lv_iload_n hx hb dX11_count_116 rfl (lv_at hl 1 rfl) ?_
      refine lv_iconst (v := 4) hx hb dX11_count_117 (by decide) ?_
      refine xi_isub hx hb (rfl : Int32.toInt p0 = p0.toInt) ((by decide) : Int32.toInt 4 = (4 : Int)) dX11_count_118 (fun x29 t30 => ?_)
      refine al_0 S hK hT hk28 ar_36 (by decide) (z_X11_count_3 p0.toInt x24.toInt x29.toInt c1 t26 c27 t30 (xr p0) (xr x24) (xr x29)) dX11_count_119 (fun x31 o32 => ?_)
      refine lv_goto (tgt := 124) hx hb dX11_count_120 (by decide) ?_
      exact x_ri hx hb hr hlk hQ (Nat.le_of_ble_eq_true rfl) (Nat.le_of_ble_eq_true rfl) hS dX11_count_124 (0, z3, z4, ar2, ar3, ar4) ⟨_, rfl⟩ hT.nil
  · refine lv_tableIn (off := 92) (tgt := 98) hx hb dX11_count_6 (by rw [c1]; decide) (by rw [c1]; decide) (by rw [c1]; rfl) (by decide) ?_
    refine lv_iload_n hx hb dX11_count_98 rfl (lv_at hl 1 rfl) ?_
    refine lv_i2l (v := p0.toInt64) hx hb dX11_count_99 rfl ?_
    refine lv_ldc2 (v := 4) hx hb S.2.2.2.1 (S.2.2.2.2 _ (List.mem_cons_of_mem _ kc_X11_401)) dX11_count_100 ?_
    refine lv_ldc2 (v := 7) hx hb S.2.2.2.1 (S.2.2.2.2 _ (List.mem_cons_of_mem _ kc_X11_403)) dX11_count_103 ?_
    refine x_clp (x_runS (As := [.long p0.toInt64, .long (4 : Int64), .long (7 : Int64)]) (rest := []) S (c_X11_in l E K F tl 0 z1 z2 z3 z4 z5 z6 z7 z8 z9 z10 z11 z12 z13 z14 z15 z16 z17 z18 z19 z20 ar0 ar1 ar2 ar3 ar4 ar5 ar6 ar7 ar8 ar9 ar10 H p0.toInt64 (4 : Int64) (7 : Int64) p0.toInt (4 : Int) (7 : Int) (xl_i2l (rfl : Int32.toInt p0 = p0.toInt)) (by decide) (by decide)) ms_X11_in km_X11_139 rfl rfl ⟨Nat.le_of_ble_eq_true rfl, Nat.le_of_ble_eq_true rfl⟩ hK (fun _ => XPh.blind) (fun U hU hW => XPh.at hK hz hS hT hU hW) rfl hl.1 (Nat.le_of_ble_eq_true rfl) dX11_count_106 ⟨Nat.le_of_ble_eq_true rfl, Nat.le_of_ble_eq_true rfl⟩) hS ?_
    rintro _ _ locs ⟨x33, rfl, b34, t35⟩ hS
    have t35 : (x33.toInt = 1 ∧ (4 : Int) ≤ p0.toInt ∧ p0.toInt ≤ (7 : Int)) ∨ (x33.toInt = 0 ∧ (p0.toInt < (4 : Int) ∨ (7 : Int) < p0.toInt)) := t35
    refine xi_zeq (tgt := 123) hx hb (rfl : Int32.toInt x33 = x33.toInt) dX11_count_109 (by decide) (fun c36 => ?_) (fun c36 => ?_)
    · refine lv_iconst (v := (-1)) hx hb dX11_count_123 (by decide) ?_
      exact x_ri hx hb hr hlk hQ (Nat.le_of_ble_eq_true rfl) (Nat.le_of_ble_eq_true rfl) hS dX11_count_124 (0, z3, z4, ar2, ar3, ar4) ⟨_, rfl⟩ hT.nil
    · refine lv_aload_n hx hb dX11_count_112 rfl (lv_at hl 0 rfl) ?_
      refine gX11_9 S hK hT ha kf_X11_30 dX11_count_113 (fun hk37 => ?_)
      refine lv_iload_n hx hb dX11_count_116 rfl (lv_at hl 1 rfl) ?_
      refine lv_iconst (v := 4) hx hb dX11_count_117 (by decide) ?_
      refine xi_isub hx hb (rfl : Int32.toInt p0 = p0.toInt) ((by decide) : Int32.toInt 4 = (4 : Int)) dX11_count_118 (fun x38 t39 => ?_)
      refine al_0 S hK hT hk37 ar_36 (by decide) (z_X11_count_4 p0.toInt x33.toInt x38.toInt c1 t35 c36 t39 (xr p0) (xr x33) (xr x38)) dX11_count_119 (fun x40 o41 => ?_)
      refine lv_goto (tgt := 124) hx hb dX11_count_120 (by decide) ?_
      exact x_ri hx hb hr hlk hQ (Nat.le_of_ble_eq_true rfl) (Nat.le_of_ble_eq_true rfl) hS dX11_count_124 (0, z3, z4, ar2, ar3, ar4) ⟨_, rfl⟩ hT.nil
  · refine lv_tableIn (off := 92) (tgt := 98) hx hb dX11_count_6 (by rw [c1]; decide) (by rw [c1]; decide) (by rw [c1]; rfl) (by decide) ?_
    refine lv_iload_n hx hb dX11_count_98 rfl (lv_at hl 1 rfl) ?_
    refine lv_i2l (v := p0.toInt64) hx hb dX11_count_99 rfl ?_
    refine lv_ldc2 (v := 4) hx hb S.2.2.2.1 (S.2.2.2.2 _ (List.mem_cons_of_mem _ kc_X11_401)) dX11_count_100 ?_
    refine lv_ldc2 (v := 7) hx hb S.2.2.2.1 (S.2.2.2.2 _ (List.mem_cons_of_mem _ kc_X11_403)) dX11_count_103 ?_
    refine x_clp (x_runS (As := [.long p0.toInt64, .long (4 : Int64), .long (7 : Int64)]) (rest := []) S (c_X11_in l E K F tl 0 z1 z2 z3 z4 z5 z6 z7 z8 z9 z10 z11 z12 z13 z14 z15 z16 z17 z18 z19 z20 ar0 ar1 ar2 ar3 ar4 ar5 ar6 ar7 ar8 ar9 ar10 H p0.toInt64 (4 : Int64) (7 : Int64) p0.toInt (4 : Int) (7 : Int) (xl_i2l (rfl : Int32.toInt p0 = p0.toInt)) (by decide) (by decide)) ms_X11_in km_X11_139 rfl rfl ⟨Nat.le_of_ble_eq_true rfl, Nat.le_of_ble_eq_true rfl⟩ hK (fun _ => XPh.blind) (fun U hU hW => XPh.at hK hz hS hT hU hW) rfl hl.1 (Nat.le_of_ble_eq_true rfl) dX11_count_106 ⟨Nat.le_of_ble_eq_true rfl, Nat.le_of_ble_eq_true rfl⟩) hS ?_
    rintro _ _ locs ⟨x42, rfl, b43, t44⟩ hS
    have t44 : (x42.toInt = 1 ∧ (4 : Int) ≤ p0.toInt ∧ p0.toInt ≤ (7 : Int)) ∨ (x42.toInt = 0 ∧ (p0.toInt < (4 : Int) ∨ (7 : Int) < p0.toInt)) := t44
    refine xi_zeq (tgt := 123) hx hb (rfl : Int32.toInt x42 = x42.toInt) dX11_count_109 (by decide) (fun c45 => ?_) (fun c45 => ?_)
    · refine lv_iconst (v := (-1)) hx hb dX11_count_123 (by decide) ?_
      exact x_ri hx hb hr hlk hQ (Nat.le_of_ble_eq_true rfl) (Nat.le_of_ble_eq_true rfl) hS dX11_count_124 (0, z3, z4, ar2, ar3, ar4) ⟨_, rfl⟩ hT.nil
    · refine lv_aload_n hx hb dX11_count_112 rfl (lv_at hl 0 rfl) ?_
      refine gX11_9 S hK hT ha kf_X11_30 dX11_count_113 (fun hk46 => ?_)
      refine lv_iload_n hx hb dX11_count_116 rfl (lv_at hl 1 rfl) ?_
      refine lv_iconst (v := 4) hx hb dX11_count_117 (by decide) ?_
      refine xi_isub hx hb (rfl : Int32.toInt p0 = p0.toInt) ((by decide) : Int32.toInt 4 = (4 : Int)) dX11_count_118 (fun x47 t48 => ?_)
      refine al_0 S hK hT hk46 ar_36 (by decide) (z_X11_count_5 p0.toInt x42.toInt x47.toInt c1 t44 c45 t48 (xr p0) (xr x42) (xr x47)) dX11_count_119 (fun x49 o50 => ?_)
      refine lv_goto (tgt := 124) hx hb dX11_count_120 (by decide) ?_
      exact x_ri hx hb hr hlk hQ (Nat.le_of_ble_eq_true rfl) (Nat.le_of_ble_eq_true rfl) hS dX11_count_124 (0, z3, z4, ar2, ar3, ar4) ⟨_, rfl⟩ hT.nil
  · refine lv_tableIn (off := 92) (tgt := 98) hx hb dX11_count_6 (by rw [c1]; decide) (by rw [c1]; decide) (by rw [c1]; rfl) (by decide) ?_
    refine lv_iload_n hx hb dX11_count_98 rfl (lv_at hl 1 rfl) ?_
    refine lv_i2l (v := p0.toInt64) hx hb dX11_count_99 rfl ?_
    refine lv_ldc2 (v := 4) hx hb S.2.2.2.1 (S.2.2.2.2 _ (List.mem_cons_of_mem _ kc_X11_401)) dX11_count_100 ?_
    refine lv_ldc2 (v := 7) hx hb S.2.2.2.1 (S.2.2.2.2 _ (List.mem_cons_of_mem _ kc_X11_403)) dX11_count_103 ?_
    refine x_clp (x_runS (As := [.long p0.toInt64, .long (4 : Int64), .long (7 : Int64)]) (rest := []) S (c_X11_in l E K F tl 0 z1 z2 z3 z4 z5 z6 z7 z8 z9 z10 z11 z12 z13 z14 z15 z16 z17 z18 z19 z20 ar0 ar1 ar2 ar3 ar4 ar5 ar6 ar7 ar8 ar9 ar10 H p0.toInt64 (4 : Int64) (7 : Int64) p0.toInt (4 : Int) (7 : Int) (xl_i2l (rfl : Int32.toInt p0 = p0.toInt)) (by decide) (by decide)) ms_X11_in km_X11_139 rfl rfl ⟨Nat.le_of_ble_eq_true rfl, Nat.le_of_ble_eq_true rfl⟩ hK (fun _ => XPh.blind) (fun U hU hW => XPh.at hK hz hS hT hU hW) rfl hl.1 (Nat.le_of_ble_eq_true rfl) dX11_count_106 ⟨Nat.le_of_ble_eq_true rfl, Nat.le_of_ble_eq_true rfl⟩) hS ?_
    rintro _ _ locs ⟨x51, rfl, b52, t53⟩ hS
    have t53 : (x51.toInt = 1 ∧ (4 : Int) ≤ p0.toInt ∧ p0.toInt ≤ (7 : Int)) ∨ (x51.toInt = 0 ∧ (p0.toInt < (4 : Int) ∨ (7 : Int) < p0.toInt)) := t53
    refine xi_zeq (tgt := 123) hx hb (rfl : Int32.toInt x51 = x51.toInt) dX11_count_109 (by decide) (fun c54 => ?_) (fun c54 => ?_)
    · refine lv_iconst (v := (-1)) hx hb dX11_count_123 (by decide) ?_
      exact x_ri hx hb hr hlk hQ (Nat.le_of_ble_eq_true rfl) (Nat.le_of_ble_eq_true rfl) hS dX11_count_124 (0, z3, z4, ar2, ar3, ar4) ⟨_, rfl⟩ hT.nil
    · refine lv_aload_n hx hb dX11_count_112 rfl (lv_at hl 0 rfl) ?_
      refine gX11_9 S hK hT ha kf_X11_30 dX11_count_113 (fun hk55 => ?_)
      refine lv_iload_n hx hb dX11_count_116 rfl (lv_at hl 1 rfl) ?_
      refine lv_iconst (v := 4) hx hb dX11_count_117 (by decide) ?_
      refine xi_isub hx hb (rfl : Int32.toInt p0 = p0.toInt) ((by decide) : Int32.toInt 4 = (4 : Int)) dX11_count_118 (fun x56 t57 => ?_)
      refine al_0 S hK hT hk55 ar_36 (by decide) (z_X11_count_6 p0.toInt x51.toInt x56.toInt c1 t53 c54 t57 (xr p0) (xr x51) (xr x56)) dX11_count_119 (fun x58 o59 => ?_)
      refine lv_goto (tgt := 124) hx hb dX11_count_120 (by decide) ?_
      exact x_ri hx hb hr hlk hQ (Nat.le_of_ble_eq_true rfl) (Nat.le_of_ble_eq_true rfl) hS dX11_count_124 (0, z3, z4, ar2, ar3, ar4) ⟨_, rfl⟩ hT.nil
  · refine lv_tableIn (off := 82) (tgt := 88) hx hb dX11_count_6 (by rw [c1]; decide) (by rw [c1]; decide) (by rw [c1]; rfl) (by decide) ?_
    refine lv_aload_n hx hb dX11_count_88 rfl (lv_at hl 0 rfl) ?_
    refine gX11_36 S hK hT ha kf_X11_245 dX11_count_89 (v := z8) rfl ?_
    exact x_ri hx hb hr hlk hQ (Nat.le_of_ble_eq_true rfl) (Nat.le_of_ble_eq_true rfl) hS dX11_count_92 (0, z3, z4, ar2, ar3, ar4) ⟨_, rfl⟩ hT.nil
  · refine lv_tableIn (off := 87) (tgt := 93) hx hb dX11_count_6 (by rw [c1]; decide) (by rw [c1]; decide) (by rw [c1]; rfl) (by decide) ?_
    refine lv_aload_n hx hb dX11_count_93 rfl (lv_at hl 0 rfl) ?_
    refine x_clp (x_runV (b := a) (As := []) (rest := []) S (c_X11_lateMany l E K F tl 0 z1 z2 z3 z4 z5 z6 z7 z8 z9 z10 z11 z12 z13 z14 z15 z16 z17 z18 z19 z20 ar0 ar1 ar2 ar3 ar4 ar5 ar6 ar7 ar8 ar9 ar10 H a ha hR) mv_X11_lateMany km_X11_398 rfl rfl ⟨Nat.le_of_ble_eq_true rfl, Nat.le_of_ble_eq_true rfl⟩ (rc_13 hK hT ha) hK (fun _ => XPh.blind) (fun U hU hW => XPh.at hK hz hS hT hU hW) rfl hl.1 (Nat.le_of_ble_eq_true rfl) dX11_count_94 ⟨Nat.le_of_ble_eq_true rfl, Nat.le_of_ble_eq_true rfl⟩) hS ?_
    rintro _ _ locs ⟨x60, rfl⟩ hS
    exact x_ri hx hb hr hlk hQ (Nat.le_of_ble_eq_true rfl) (Nat.le_of_ble_eq_true rfl) hS dX11_count_97 (0, z3, z4, ar2, ar3, ar4) ⟨_, rfl⟩ hT.nil
