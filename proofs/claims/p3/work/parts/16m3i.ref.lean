theorem z_X11_fresh_1 (a0 : Int) (a1 : Int) (a2 : Int) (a3 : Int) (h0 : 0 ≤ a3 ∧ a3 ≤ 8) (h1 : a2 = 0 ∨ (a2 = 1 ∧ 0 ≤ a0 ∧ a0 < a3)) (h2 : a2 = 0 ∨ a2 = 1) (h3 : ¬ (a2 = 0)) (h4 : a1 = (360 : Int) * a0 ∨ (360 : Int) * a0 < -2147483648 ∨ 2147483648 ≤ (360 : Int) * a0) (r0 : -2147483648 ≤ a0 ∧ a0 < 2147483648) (r1 : -2147483648 ≤ a1 ∧ a1 < 2147483648) (r2 : -2147483648 ≤ a2 ∧ a2 < 2147483648) (r3 : -2147483648 ≤ a3 ∧ a3 < 2147483648) : 0 ≤ a1 ∧ a1 ≤ 2520 := by first | (clear h1 h2 h3; omega) | (clear h2 h3; omega) | omega
theorem z_X11_fresh_2 (a0 : Int) (h0 : (0 : Int) ≤ a0) (r0 : -2147483648 ≤ a0 ∧ a0 < 2147483648) : ¬ (2147483648 - a0 < ((0 : Nat) : Int)) := by omega
theorem z_X11_fresh_3 (a0 : Int) (a1 : Int) (a2 : Int) (a3 : Nat) (a4 : Int) (h0 : (0 : Int) ≤ a0) (h1 : 2147483648 - a0 < ((a3 + 1 : Nat) : Int)) (h2 : ¬ ((12 : Int) ≤ a0)) (h3 : a1 = 0 ∨ (a1 = 1 ∧ 0 ≤ a0 ∧ a0 ≤ 11 ∧ 0 ≤ a4)) (h4 : a1 = 0 ∨ a1 = 1) (h5 : a2 = a0 + 1 ∨ a0 + 1 < -2147483648 ∨ 2147483648 ≤ a0 + 1) (r0 : -2147483648 ≤ a0 ∧ a0 < 2147483648) (r1 : -2147483648 ≤ a1 ∧ a1 < 2147483648) (r2 : -2147483648 ≤ a2 ∧ a2 < 2147483648) : (0 : Int) ≤ a2 := by first | (clear h3 h4; omega) | (clear h4; omega) | omega
theorem z_X11_fresh_4 (a0 : Int) (a1 : Int) (a2 : Int) (a3 : Nat) (a4 : Int) (h0 : (0 : Int) ≤ a0) (h1 : 2147483648 - a0 < ((a3 + 1 : Nat) : Int)) (h2 : ¬ ((12 : Int) ≤ a0)) (h3 : a1 = 0 ∨ (a1 = 1 ∧ 0 ≤ a0 ∧ a0 ≤ 11 ∧ 0 ≤ a4)) (h4 : a1 = 0 ∨ a1 = 1) (h5 : a2 = a0 + 1 ∨ a0 + 1 < -2147483648 ∨ 2147483648 ≤ a0 + 1) (r0 : -2147483648 ≤ a0 ∧ a0 < 2147483648) (r1 : -2147483648 ≤ a1 ∧ a1 < 2147483648) (r2 : -2147483648 ≤ a2 ∧ a2 < 2147483648) : 2147483648 - a2 < ((a3 : Nat) : Int) := by first | (clear h3 h4; omega) | (clear h4; omega) | omega
theorem z_X11_fresh_5 (a0 : Int) (a1 : Int) (a2 : Nat) (a3 : Int) (h0 : (0 : Int) ≤ a0) (h1 : 2147483648 - a0 < ((a2 + 1 : Nat) : Int)) (h2 : ¬ ((12 : Int) ≤ a0)) (h3 : a1 = 0 ∨ (a1 = 1 ∧ 0 ≤ a0 ∧ a0 ≤ 11 ∧ 0 ≤ a3)) (h4 : a1 = 0 ∨ a1 = 1) (h5 : ¬ (a1 = 0)) (r0 : -2147483648 ≤ a0 ∧ a0 < 2147483648) (r1 : -2147483648 ≤ a1 ∧ a1 < 2147483648) : 0 ≤ a0 ∧ a0 ≤ 11 := by first | (clear h4 h5; omega) | omega
theorem z_X11_fresh_6 (a0 : Int) (a1 : Int) (a2 : Nat) (a3 : Int) (h0 : (0 : Int) ≤ a0) (h1 : 2147483648 - a0 < ((a2 + 1 : Nat) : Int)) (h2 : ¬ ((12 : Int) ≤ a0)) (h3 : a1 = 0 ∨ (a1 = 1 ∧ 0 ≤ a0 ∧ a0 ≤ 11 ∧ 0 ≤ a3)) (h4 : a1 = 0 ∨ a1 = 1) (h5 : ¬ (a1 = 0)) (r0 : -2147483648 ≤ a0 ∧ a0 < 2147483648) (r1 : -2147483648 ≤ a1 ∧ a1 < 2147483648) : 0 ≤ a0 ∧ a0 ≤ 11 := by first | (clear h4 h5; omega) | omega
theorem z_X11_fresh_7 (a0 : Int) (a1 : Int) (a2 : Nat) (a3 : Int) (a4 : Int) (h0 : (0 : Int) ≤ a0) (h1 : 2147483648 - a0 < ((a2 + 1 : Nat) : Int)) (h2 : ¬ ((12 : Int) ≤ a0)) (h3 : a1 = 0 ∨ (a1 = 1 ∧ 0 ≤ a0 ∧ a0 ≤ 11 ∧ 0 ≤ a3)) (h4 : a1 = 0 ∨ a1 = 1) (h5 : ¬ (a1 = 0)) (h6 : -1 ≤ a3 ∧ a3 ≤ 5) (h7 : -1 ≤ a4 ∧ a4 ≤ 2) (h8 : a3 = 1 ∨ a3 = 3 ∨ a3 = 4 → 0 ≤ a4) (r0 : -2147483648 ≤ a0 ∧ a0 < 2147483648) (r1 : -2147483648 ≤ a1 ∧ a1 < 2147483648) : 0 ≤ a0 ∧ a0 ≤ 11 := by first | (clear h4 h5 h8; omega) | omega
theorem z_X11_fresh_8 (a0 : Int) (a1 : Int) (a2 : Int) (a3 : Int) (h0 : a2 ≤ a1 ∧ a1 ≤ a3 + 1) (h1 : a0 = a2 ∧ -99 ≤ a2 ∧ a2 ≤ 0 ∧ 29 ≤ a3 ∧ a3 ≤ 99 ∧ a3 - a2 ≤ 198) (r0 : -2147483648 ≤ a0 ∧ a0 < 2147483648) (r1 : -2147483648 ≤ a1 ∧ a1 < 2147483648) : ¬ (2147483648 - a1 < ((0 : Nat) : Int)) := by omega
theorem z_X11_fresh_9 (a0 : Int) (a1 : Int) (a2 : Nat) (a3 : Int) (a4 : Int) (h0 : (0 : Int) ≤ a0) (h1 : 2147483648 - a0 < ((a2 + 1 : Nat) : Int)) (h2 : ¬ ((12 : Int) ≤ a0)) (h3 : a1 = 0 ∨ (a1 = 1 ∧ 0 ≤ a0 ∧ a0 ≤ 11 ∧ 0 ≤ a3)) (h4 : a1 = 0 ∨ a1 = 1) (h5 : ¬ (a1 = 0)) (h6 : -1 ≤ a3 ∧ a3 ≤ 5) (h7 : -1 ≤ a4 ∧ a4 ≤ 2) (h8 : a3 = 1 ∨ a3 = 3 ∨ a3 = 4 → 0 ≤ a4) (r0 : -2147483648 ≤ a0 ∧ a0 < 2147483648) (r1 : -2147483648 ≤ a1 ∧ a1 < 2147483648) : 0 ≤ a0 ∧ a0 ≤ 11 := by first | (clear h4 h5 h8; omega) | omega
theorem z_X11_fresh_10 (a0 : Int) (a1 : Int) (a2 : Int) (a3 : Int) (a4 : Int) (a5 : Int) (a6 : Nat) (a7 : Nat) (a8 : Int) (a9 : Int) (a10 : Int) (a11 : Int) (h0 : (0 : Int) ≤ a0) (h1 : 2147483648 - a0 < ((a6 + 1 : Nat) : Int)) (h2 : ¬ ((12 : Int) ≤ a0)) (h3 : a1 = 0 ∨ (a1 = 1 ∧ 0 ≤ a0 ∧ a0 ≤ 11 ∧ 0 ≤ a9)) (h4 : a1 = 0 ∨ a1 = 1) (h5 : ¬ (a1 = 0)) (h6 : -1 ≤ a9 ∧ a9 ≤ 5) (h7 : -1 ≤ a10 ∧ a10 ≤ 2) (h8 : a9 = 1 ∨ a9 = 3 ∨ a9 = 4 → 0 ≤ a10) (h9 : a2 = a8 ∧ -99 ≤ a8 ∧ a8 ≤ 0 ∧ 29 ≤ a11 ∧ a11 ≤ 99 ∧ a11 - a8 ≤ 198) (h10 : a8 ≤ a3 ∧ a3 ≤ a11 + 1) (h11 : 2147483648 - a3 < ((a7 + 1 : Nat) : Int)) (h12 : a4 = a11 ∧ -99 ≤ a8 ∧ a8 ≤ 0 ∧ 29 ≤ a11 ∧ a11 ≤ 99 ∧ a11 - a8 ≤ 198) (h13 : ¬ (a4 < a3)) (h14 : 0 ≤ a0 ∧ a0 ≤ 11 ∧ -99 ≤ a3 ∧ a3 ≤ 99 → a5 = 199 * a0 + a3 + 99) (r0 : -2147483648 ≤ a0 ∧ a0 < 2147483648) (r1 : -2147483648 ≤ a1 ∧ a1 < 2147483648) (r2 : -2147483648 ≤ a2 ∧ a2 < 2147483648) (r3 : -2147483648 ≤ a3 ∧ a3 < 2147483648) (r4 : -2147483648 ≤ a4 ∧ a4 < 2147483648) (r5 : -2147483648 ≤ a5 ∧ a5 < 2147483648) : 0 ≤ a5 ∧ a5 < ((2388 : Nat) : Int) := by first | (clear h3 h4 h5 h8; omega) | (clear h4 h5 h8; omega) | omega
theorem z_X11_fresh_11 (a0 : Int) (a1 : Int) (a2 : Int) (a3 : Int) (a4 : Int) (a5 : Int) (a6 : Nat) (a7 : Nat) (a8 : Int) (a9 : Int) (a10 : Int) (a11 : Int) (h0 : (0 : Int) ≤ a0) (h1 : 2147483648 - a0 < ((a6 + 1 : Nat) : Int)) (h2 : ¬ ((12 : Int) ≤ a0)) (h3 : a1 = 0 ∨ (a1 = 1 ∧ 0 ≤ a0 ∧ a0 ≤ 11 ∧ 0 ≤ a9)) (h4 : a1 = 0 ∨ a1 = 1) (h5 : ¬ (a1 = 0)) (h6 : -1 ≤ a9 ∧ a9 ≤ 5) (h7 : -1 ≤ a10 ∧ a10 ≤ 2) (h8 : a9 = 1 ∨ a9 = 3 ∨ a9 = 4 → 0 ≤ a10) (h9 : a2 = a8 ∧ -99 ≤ a8 ∧ a8 ≤ 0 ∧ 29 ≤ a11 ∧ a11 ≤ 99 ∧ a11 - a8 ≤ 198) (h10 : a8 ≤ a3 ∧ a3 ≤ a11 + 1) (h11 : 2147483648 - a3 < ((a7 + 1 : Nat) : Int)) (h12 : a4 = a11 ∧ -99 ≤ a8 ∧ a8 ≤ 0 ∧ 29 ≤ a11 ∧ a11 ≤ 99 ∧ a11 - a8 ≤ 198) (h13 : ¬ (a4 < a3)) (h14 : 0 ≤ a0 ∧ a0 ≤ 11 ∧ -99 ≤ a3 ∧ a3 ≤ 99 → a5 = 199 * a0 + a3 + 99) (r0 : -2147483648 ≤ a0 ∧ a0 < 2147483648) (r1 : -2147483648 ≤ a1 ∧ a1 < 2147483648) (r2 : -2147483648 ≤ a2 ∧ a2 < 2147483648) (r3 : -2147483648 ≤ a3 ∧ a3 < 2147483648) (r4 : -2147483648 ≤ a4 ∧ a4 < 2147483648) (r5 : -2147483648 ≤ a5 ∧ a5 < 2147483648) : 0 ≤ a5 ∧ a5 < ((2388 : Nat) : Int) := by first | (clear h3 h4 h5 h8; omega) | (clear h4 h5 h8; omega) | omega
theorem z_X11_fresh_12 (a0 : Int) (a1 : Int) (a2 : Int) (a3 : Int) (a4 : Int) (a5 : Int) (a6 : Int) (a7 : Nat) (a8 : Nat) (a9 : Int) (a10 : Int) (a11 : Int) (a12 : Int) (h0 : (0 : Int) ≤ a0) (h1 : 2147483648 - a0 < ((a7 + 1 : Nat) : Int)) (h2 : ¬ ((12 : Int) ≤ a0)) (h3 : a1 = 0 ∨ (a1 = 1 ∧ 0 ≤ a0 ∧ a0 ≤ 11 ∧ 0 ≤ a10)) (h4 : a1 = 0 ∨ a1 = 1) (h5 : ¬ (a1 = 0)) (h6 : -1 ≤ a10 ∧ a10 ≤ 5) (h7 : -1 ≤ a11 ∧ a11 ≤ 2) (h8 : a10 = 1 ∨ a10 = 3 ∨ a10 = 4 → 0 ≤ a11) (h9 : a2 = a9 ∧ -99 ≤ a9 ∧ a9 ≤ 0 ∧ 29 ≤ a12 ∧ a12 ≤ 99 ∧ a12 - a9 ≤ 198) (h10 : a9 ≤ a3 ∧ a3 ≤ a12 + 1) (h11 : 2147483648 - a3 < ((a8 + 1 : Nat) : Int)) (h12 : a4 = a12 ∧ -99 ≤ a9 ∧ a9 ≤ 0 ∧ 29 ≤ a12 ∧ a12 ≤ 99 ∧ a12 - a9 ≤ 198) (h13 : ¬ (a4 < a3)) (h14 : 0 ≤ a0 ∧ a0 ≤ 11 ∧ -99 ≤ a3 ∧ a3 ≤ 99 → a5 = 199 * a0 + a3 + 99) (h15 : a6 = a3 + 1 ∨ a3 + 1 < -2147483648 ∨ 2147483648 ≤ a3 + 1) (r0 : -2147483648 ≤ a0 ∧ a0 < 2147483648) (r1 : -2147483648 ≤ a1 ∧ a1 < 2147483648) (r2 : -2147483648 ≤ a2 ∧ a2 < 2147483648) (r3 : -2147483648 ≤ a3 ∧ a3 < 2147483648) (r4 : -2147483648 ≤ a4 ∧ a4 < 2147483648) (r5 : -2147483648 ≤ a5 ∧ a5 < 2147483648) (r6 : -2147483648 ≤ a6 ∧ a6 < 2147483648) : a9 ≤ a6 ∧ a6 ≤ a12 + 1 := by first | (clear h3 h4 h5 h8 h14; omega) | (clear h3 h4 h5 h8; omega) | (clear h4 h5 h8; omega) | omega
theorem z_X11_fresh_13 (a0 : Int) (a1 : Int) (a2 : Int) (a3 : Int) (a4 : Int) (a5 : Int) (a6 : Int) (a7 : Nat) (a8 : Nat) (a9 : Int) (a10 : Int) (a11 : Int) (a12 : Int) (h0 : (0 : Int) ≤ a0) (h1 : 2147483648 - a0 < ((a7 + 1 : Nat) : Int)) (h2 : ¬ ((12 : Int) ≤ a0)) (h3 : a1 = 0 ∨ (a1 = 1 ∧ 0 ≤ a0 ∧ a0 ≤ 11 ∧ 0 ≤ a10)) (h4 : a1 = 0 ∨ a1 = 1) (h5 : ¬ (a1 = 0)) (h6 : -1 ≤ a10 ∧ a10 ≤ 5) (h7 : -1 ≤ a11 ∧ a11 ≤ 2) (h8 : a10 = 1 ∨ a10 = 3 ∨ a10 = 4 → 0 ≤ a11) (h9 : a2 = a9 ∧ -99 ≤ a9 ∧ a9 ≤ 0 ∧ 29 ≤ a12 ∧ a12 ≤ 99 ∧ a12 - a9 ≤ 198) (h10 : a9 ≤ a3 ∧ a3 ≤ a12 + 1) (h11 : 2147483648 - a3 < ((a8 + 1 : Nat) : Int)) (h12 : a4 = a12 ∧ -99 ≤ a9 ∧ a9 ≤ 0 ∧ 29 ≤ a12 ∧ a12 ≤ 99 ∧ a12 - a9 ≤ 198) (h13 : ¬ (a4 < a3)) (h14 : 0 ≤ a0 ∧ a0 ≤ 11 ∧ -99 ≤ a3 ∧ a3 ≤ 99 → a5 = 199 * a0 + a3 + 99) (h15 : a6 = a3 + 1 ∨ a3 + 1 < -2147483648 ∨ 2147483648 ≤ a3 + 1) (r0 : -2147483648 ≤ a0 ∧ a0 < 2147483648) (r1 : -2147483648 ≤ a1 ∧ a1 < 2147483648) (r2 : -2147483648 ≤ a2 ∧ a2 < 2147483648) (r3 : -2147483648 ≤ a3 ∧ a3 < 2147483648) (r4 : -2147483648 ≤ a4 ∧ a4 < 2147483648) (r5 : -2147483648 ≤ a5 ∧ a5 < 2147483648) (r6 : -2147483648 ≤ a6 ∧ a6 < 2147483648) : 2147483648 - a6 < ((a8 : Nat) : Int) := by first | (clear h3 h4 h5 h8 h14; omega) | (clear h3 h4 h5 h8; omega) | (clear h4 h5 h8; omega) | omega
theorem z_X11_fresh_14 (a0 : Int) (a1 : Int) (a2 : Int) (a3 : Int) (a4 : Int) (a5 : Int) (a6 : Nat) (a7 : Nat) (a8 : Int) (a9 : Int) (a10 : Int) (a11 : Int) (h0 : (0 : Int) ≤ a0) (h1 : 2147483648 - a0 < ((a6 + 1 : Nat) : Int)) (h2 : ¬ ((12 : Int) ≤ a0)) (h3 : a1 = 0 ∨ (a1 = 1 ∧ 0 ≤ a0 ∧ a0 ≤ 11 ∧ 0 ≤ a9)) (h4 : a1 = 0 ∨ a1 = 1) (h5 : ¬ (a1 = 0)) (h6 : -1 ≤ a9 ∧ a9 ≤ 5) (h7 : -1 ≤ a10 ∧ a10 ≤ 2) (h8 : a9 = 1 ∨ a9 = 3 ∨ a9 = 4 → 0 ≤ a10) (h9 : a2 = a8 ∧ -99 ≤ a8 ∧ a8 ≤ 0 ∧ 29 ≤ a11 ∧ a11 ≤ 99 ∧ a11 - a8 ≤ 198) (h10 : a8 ≤ a3 ∧ a3 ≤ a11 + 1) (h11 : 2147483648 - a3 < ((a7 + 1 : Nat) : Int)) (h12 : a4 = a11 ∧ -99 ≤ a8 ∧ a8 ≤ 0 ∧ 29 ≤ a11 ∧ a11 ≤ 99 ∧ a11 - a8 ≤ 198) (h13 : ¬ (a4 < a3)) (h14 : 0 ≤ a0 ∧ a0 ≤ 11 ∧ -99 ≤ a3 ∧ a3 ≤ 99 → a5 = 199 * a0 + a3 + 99) (r0 : -2147483648 ≤ a0 ∧ a0 < 2147483648) (r1 : -2147483648 ≤ a1 ∧ a1 < 2147483648) (r2 : -2147483648 ≤ a2 ∧ a2 < 2147483648) (r3 : -2147483648 ≤ a3 ∧ a3 < 2147483648) (r4 : -2147483648 ≤ a4 ∧ a4 < 2147483648) (r5 : -2147483648 ≤ a5 ∧ a5 < 2147483648) : 0 ≤ a5 ∧ a5 < ((2388 : Nat) : Int) := by first | (clear h3 h4 h5 h8; omega) | (clear h4 h5 h8; omega) | omega
theorem z_X11_fresh_15 (a0 : Int) (a1 : Int) (a2 : Int) (a3 : Int) (a4 : Int) (a5 : Int) (a6 : Nat) (a7 : Nat) (a8 : Int) (a9 : Int) (a10 : Int) (a11 : Int) (h0 : (0 : Int) ≤ a0) (h1 : 2147483648 - a0 < ((a6 + 1 : Nat) : Int)) (h2 : ¬ ((12 : Int) ≤ a0)) (h3 : a1 = 0 ∨ (a1 = 1 ∧ 0 ≤ a0 ∧ a0 ≤ 11 ∧ 0 ≤ a9)) (h4 : a1 = 0 ∨ a1 = 1) (h5 : ¬ (a1 = 0)) (h6 : -1 ≤ a9 ∧ a9 ≤ 5) (h7 : -1 ≤ a10 ∧ a10 ≤ 2) (h8 : a9 = 1 ∨ a9 = 3 ∨ a9 = 4 → 0 ≤ a10) (h9 : a2 = a8 ∧ -99 ≤ a8 ∧ a8 ≤ 0 ∧ 29 ≤ a11 ∧ a11 ≤ 99 ∧ a11 - a8 ≤ 198) (h10 : a8 ≤ a3 ∧ a3 ≤ a11 + 1) (h11 : 2147483648 - a3 < ((a7 + 1 : Nat) : Int)) (h12 : a4 = a11 ∧ -99 ≤ a8 ∧ a8 ≤ 0 ∧ 29 ≤ a11 ∧ a11 ≤ 99 ∧ a11 - a8 ≤ 198) (h13 : ¬ (a4 < a3)) (h14 : 0 ≤ a0 ∧ a0 ≤ 11 ∧ -99 ≤ a3 ∧ a3 ≤ 99 → a5 = 199 * a0 + a3 + 99) (r0 : -2147483648 ≤ a0 ∧ a0 < 2147483648) (r1 : -2147483648 ≤ a1 ∧ a1 < 2147483648) (r2 : -2147483648 ≤ a2 ∧ a2 < 2147483648) (r3 : -2147483648 ≤ a3 ∧ a3 < 2147483648) (r4 : -2147483648 ≤ a4 ∧ a4 < 2147483648) (r5 : -2147483648 ≤ a5 ∧ a5 < 2147483648) : 0 ≤ a5 ∧ a5 < ((2388 : Nat) : Int) := by first | (clear h3 h4 h5 h8; omega) | (clear h4 h5 h8; omega) | omega
theorem z_X11_fresh_16 (a0 : Int) (a1 : Int) (a2 : Int) (a3 : Int) (a4 : Int) (a5 : Int) (a6 : Nat) (a7 : Nat) (a8 : Int) (a9 : Int) (a10 : Int) (a11 : Int) (h0 : (0 : Int) ≤ a0) (h1 : 2147483648 - a0 < ((a6 + 1 : Nat) : Int)) (h2 : ¬ ((12 : Int) ≤ a0)) (h3 : a1 = 0 ∨ (a1 = 1 ∧ 0 ≤ a0 ∧ a0 ≤ 11 ∧ 0 ≤ a9)) (h4 : a1 = 0 ∨ a1 = 1) (h5 : ¬ (a1 = 0)) (h6 : -1 ≤ a9 ∧ a9 ≤ 5) (h7 : -1 ≤ a10 ∧ a10 ≤ 2) (h8 : a9 = 1 ∨ a9 = 3 ∨ a9 = 4 → 0 ≤ a10) (h9 : a2 = a8 ∧ -99 ≤ a8 ∧ a8 ≤ 0 ∧ 29 ≤ a11 ∧ a11 ≤ 99 ∧ a11 - a8 ≤ 198) (h10 : a8 ≤ a3 ∧ a3 ≤ a11 + 1) (h11 : 2147483648 - a3 < ((a7 + 1 : Nat) : Int)) (h12 : a4 = a11 ∧ -99 ≤ a8 ∧ a8 ≤ 0 ∧ 29 ≤ a11 ∧ a11 ≤ 99 ∧ a11 - a8 ≤ 198) (h13 : ¬ (a4 < a3)) (h14 : 0 ≤ a0 ∧ a0 ≤ 11 ∧ -99 ≤ a3 ∧ a3 ≤ 99 → a5 = 199 * a0 + a3 + 99) (r0 : -2147483648 ≤ a0 ∧ a0 < 2147483648) (r1 : -2147483648 ≤ a1 ∧ a1 < 2147483648) (r2 : -2147483648 ≤ a2 ∧ a2 < 2147483648) (r3 : -2147483648 ≤ a3 ∧ a3 < 2147483648) (r4 : -2147483648 ≤ a4 ∧ a4 < 2147483648) (r5 : -2147483648 ≤ a5 ∧ a5 < 2147483648) : 0 ≤ a5 ∧ a5 < ((2388 : Nat) : Int) := by first | (clear h3 h4 h5 h8; omega) | (clear h4 h5 h8; omega) | omega
theorem z_X11_fresh_17 (a0 : Int) (a1 : Int) (a2 : Int) (a3 : Int) (a4 : Int) (a5 : Int) (a6 : Nat) (a7 : Nat) (a8 : Int) (a9 : Int) (a10 : Int) (a11 : Int) (h0 : (0 : Int) ≤ a0) (h1 : 2147483648 - a0 < ((a6 + 1 : Nat) : Int)) (h2 : ¬ ((12 : Int) ≤ a0)) (h3 : a1 = 0 ∨ (a1 = 1 ∧ 0 ≤ a0 ∧ a0 ≤ 11 ∧ 0 ≤ a9)) (h4 : a1 = 0 ∨ a1 = 1) (h5 : ¬ (a1 = 0)) (h6 : -1 ≤ a9 ∧ a9 ≤ 5) (h7 : -1 ≤ a10 ∧ a10 ≤ 2) (h8 : a9 = 1 ∨ a9 = 3 ∨ a9 = 4 → 0 ≤ a10) (h9 : a2 = a8 ∧ -99 ≤ a8 ∧ a8 ≤ 0 ∧ 29 ≤ a11 ∧ a11 ≤ 99 ∧ a11 - a8 ≤ 198) (h10 : a8 ≤ a3 ∧ a3 ≤ a11 + 1) (h11 : 2147483648 - a3 < ((a7 + 1 : Nat) : Int)) (h12 : a4 = a11 ∧ -99 ≤ a8 ∧ a8 ≤ 0 ∧ 29 ≤ a11 ∧ a11 ≤ 99 ∧ a11 - a8 ≤ 198) (h13 : ¬ (a4 < a3)) (h14 : 0 ≤ a0 ∧ a0 ≤ 11 ∧ -99 ≤ a3 ∧ a3 ≤ 99 → a5 = 199 * a0 + a3 + 99) (r0 : -2147483648 ≤ a0 ∧ a0 < 2147483648) (r1 : -2147483648 ≤ a1 ∧ a1 < 2147483648) (r2 : -2147483648 ≤ a2 ∧ a2 < 2147483648) (r3 : -2147483648 ≤ a3 ∧ a3 < 2147483648) (r4 : -2147483648 ≤ a4 ∧ a4 < 2147483648) (r5 : -2147483648 ≤ a5 ∧ a5 < 2147483648) : 0 ≤ a5 ∧ a5 < ((2388 : Nat) : Int) := by first | (clear h3 h4 h5 h8; omega) | (clear h4 h5 h8; omega) | omega
theorem z_X11_fresh_18 (a0 : Int) (a1 : Int) (a2 : Int) (h0 : a0 = a1 ∧ -99 ≤ a1 ∧ a1 ≤ 0 ∧ 29 ≤ a2 ∧ a2 ≤ 99 ∧ a2 - a1 ≤ 198) (r0 : -2147483648 ≤ a0 ∧ a0 < 2147483648) : a1 ≤ a0 ∧ a0 ≤ a2 + 1 := by omega
theorem z_X11_fresh_19 (a0 : Int) (a1 : Int) (a2 : Int) (h0 : a0 = a1 ∧ -99 ≤ a1 ∧ a1 ≤ 0 ∧ 29 ≤ a2 ∧ a2 ≤ 99 ∧ a2 - a1 ≤ 198) (r0 : -2147483648 ≤ a0 ∧ a0 < 2147483648) : 2147483648 - a0 < ((4294967297 : Nat) : Int) := by omega
abbrev rm_X11_fresh : Room := { frames := 5, cells := 0, slots := 0, locals := 122 }
set_option maxHeartbeats 4000000 in
set_option maxRecDepth 100000 in
theorem c_X11_fresh (l : Launch) (E : XE) (K : Nat → Nat) (F : Nat → Nat → Nat) (tl z0 z1 z2 z3 z4 z5 z6 z7 z8 z9 z10 z11 z12 z13 z14 z15 z16 z17 z18 z19 z20 : Int32) (ar0 ar1 ar2 ar3 ar4 ar5 ar6 ar7 ar8 ar9 ar10 : Nat → Int32) (a : Nat) (p0 : Int32) (p1 : Int32) (ha : K a = 13) (hR : RV ar1) (e0 : 0 ≤ z2.toInt ∧ z2.toInt ≤ 8) : Met l yX11_fresh (xw yX11_fresh cX11_fresh 8 (some .int)) rm_X11_fresh (va_Pc [.ref a, .int p0, .int p1] (XP E K F (tl, [z0, z1, z2, z3, z4, z5, z6, z7, z8, z9, z10, z11, z12, z13, z14, z15, z16, z17, z18, z19, z20], [ar0, ar1, ar2, ar3, ar4, ar5, ar6, ar7, ar8, ar9, ar10]))) (XQ E (fun v (u : Int32 × Int32 × Int32 × (Nat → Int32) × (Nat → Int32) × (Nat → Int32)) => ∃ r : Int32, v = .int r) (fun u H => TW E K F (tl, [u.1, z1, z2, u.2.1, u.2.2.1, z5, z6, z7, z8, z9, z10, z11, z12, z13, z14, z15, z16, z17, z18, z19, z20], [ar0, ar1, u.2.2.2.1, u.2.2.2.2.1, u.2.2.2.2.2, ar5, ar6, ar7, ar8, ar9, ar10]) [] H)) 0 0 (xA E) := by
  refine x_enter (by decide) (Nat.le_of_ble_eq_true rfl) ?_
  intro p e s m args below meth c Q S hr hlk hnm hQ hP ls hl
  obtain ⟨hz, hK, hT⟩ := hP
  obtain ⟨hx, hb, -, -, -⟩ := id S
  obtain ⟨H, hT, hS, hgo⟩ : ∃ H : Heap, TW E K F (tl, [z0, z1, z2, z3, z4, z5, z6, z7, z8, z9, z10, z11, z12, z13, z14, z15, z16, z17, z18, z19, z20], [ar0, ar1, ar2, ar3, ar4, ar5, ar6, ar7, ar8, ar9, ar10]) [] H ∧ va_S (xA E) s.heap H [] ∧ H = s.heap := ⟨_, hT, va_S.rf, rfl⟩
  rw [← hgo]
  have hl : lv_has ls 8 [(0, .ref a), (1, .int p0), (2, .int p1)] := hl
  refine lv_aload_n hx hb dX11_fresh_0 rfl (lv_at hl 0 rfl) ?_
  refine lv_iconst (v := 0) hx hb dX11_fresh_1 (by decide) ?_
  refine pX11_0 (kq := []) (v := 0) S hK hT hS ha kf_X11_134 (Nat.le_of_ble_eq_true rfl) dX11_fresh_2 (fun _ h => by cases h) (fun H locs hT hS => ?_)
  have hT : TW E K F (tl, [0, z1, z2, z3, z4, z5, z6, z7, z8, z9, z10, z11, z12, z13, z14, z15, z16, z17, z18, z19, z20], [ar0, ar1, ar2, ar3, ar4, ar5, ar6, ar7, ar8, ar9, ar10]) [] H := hT
  refine lv_aload_n hx hb dX11_fresh_5 rfl (lv_at hl 0 rfl) ?_
  refine lv_iload_n hx hb dX11_fresh_6 rfl (lv_at hl 1 rfl) ?_
  refine x_clp (x_runV (b := a) (As := [.int p0]) (rest := []) S (c_X11_isMark l E K F tl 0 z1 z2 z3 z4 z5 z6 z7 z8 z9 z10 z11 z12 z13 z14 z15 z16 z17 z18 z19 z20 ar0 ar1 ar2 ar3 ar4 ar5 ar6 ar7 ar8 ar9 ar10 H a p0 ha) mv_X11_isMark km_X11_382 rfl rfl ⟨Nat.le_of_ble_eq_true rfl, Nat.le_of_ble_eq_true rfl⟩ (rc_13 hK hT ha) hK (fun _ => XPh.blind) (fun U hU hW => XPh.at hK hz hS hT hU hW) rfl hl.1 (Nat.le_of_ble_eq_true rfl) dX11_fresh_7 ⟨Nat.le_of_ble_eq_true rfl, Nat.le_of_ble_eq_true rfl⟩) hS ?_
  rintro _ _ locs ⟨x2, rfl, b3, t1⟩ hS
  have t1 : x2.toInt = 0 ∨ (x2.toInt = 1 ∧ 0 ≤ p0.toInt ∧ p0.toInt < z2.toInt) := t1
  refine xi_zeq (tgt := 23) hx hb (rfl : Int32.toInt x2 = x2.toInt) dX11_fresh_10 (by decide) (fun c4 => ?_) (fun c4 => ?_)
  · refine lv_iconst (v := (-1)) hx hb dX11_fresh_23 (by decide) ?_
    exact x_ri hx hb hr hlk hQ (Nat.le_of_ble_eq_true rfl) (Nat.le_of_ble_eq_true rfl) hS dX11_fresh_24 (0, z3, z4, ar2, ar3, ar4) ⟨_, rfl⟩ hT.nil
  · refine lv_iload_n hx hb dX11_fresh_13 rfl (lv_at hl 2 rfl) ?_
    refine lv_i2l (v := p1.toInt64) hx hb dX11_fresh_14 rfl ?_
    refine lv_lconst (v := (0 : Int64)) hx hb dX11_fresh_15 (by decide) ?_
    refine lv_lconst (v := (1 : Int64)) hx hb dX11_fresh_16 (by decide) ?_
    refine x_clp (x_runS (As := [.long p1.toInt64, .long (0 : Int64), .long (1 : Int64)]) (rest := []) S (c_X11_in l E K F tl 0 z1 z2 z3 z4 z5 z6 z7 z8 z9 z10 z11 z12 z13 z14 z15 z16 z17 z18 z19 z20 ar0 ar1 ar2 ar3 ar4 ar5 ar6 ar7 ar8 ar9 ar10 H p1.toInt64 (0 : Int64) (1 : Int64) p1.toInt (0 : Int) (1 : Int) (xl_i2l (rfl : Int32.toInt p1 = p1.toInt)) (by decide) (by decide)) ms_X11_in km_X11_139 rfl rfl ⟨Nat.le_of_ble_eq_true rfl, Nat.le_of_ble_eq_true rfl⟩ hK (fun _ => XPh.blind) (fun U hU hW => XPh.at hK hz hS hT hU hW) rfl hl.1 (Nat.le_of_ble_eq_true rfl) dX11_fresh_17 ⟨Nat.le_of_ble_eq_true rfl, Nat.le_of_ble_eq_true rfl⟩) hS ?_
    rintro _ _ locs ⟨x5, rfl, b6, t7⟩ hS
    have t7 : (x5.toInt = 1 ∧ (0 : Int) ≤ p1.toInt ∧ p1.toInt ≤ (1 : Int)) ∨ (x5.toInt = 0 ∧ (p1.toInt < (0 : Int) ∨ (1 : Int) < p1.toInt)) := t7
    refine xi_zne (tgt := 25) hx hb (rfl : Int32.toInt x5 = x5.toInt) dX11_fresh_20 (by decide) (fun c8 => ?_) (fun c8 => ?_)
    · refine lv_aload_n hx hb dX11_fresh_25 rfl (lv_at hl 0 rfl) ?_
      refine x_cv0 (x_runV (b := a) (As := []) (rest := []) S (c_X11_findQueue l E K F tl 0 z1 z2 z3 z4 z5 z6 z7 z8 z9 z10 z11 z12 z13 z14 z15 z16 z17 z18 z19 z20 ar0 ar1 ar2 ar3 ar4 ar5 ar6 ar7 ar8 ar9 ar10 a ha hR) mv_X11_findQueue km_X11_218 rfl rfl ⟨Nat.le_of_ble_eq_true rfl, Nat.le_of_ble_eq_true rfl⟩ (rc_13 hK hT ha) hK (fun _ => XP.blind) (fun U hU hW => XP.at hK hz hS hT hU hW) rfl hl.1 (Nat.le_of_ble_eq_true rfl) dX11_fresh_26 ⟨Nat.le_of_ble_eq_true rfl, Nat.le_of_ble_eq_true rfl⟩) hS ?_
      rintro ⟨u9, u10, f11, f12, f13⟩ H locs t14 hT hS
      have hT : TW E K F (tl, [0, z1, z2, u9, u10, z5, z6, z7, z8, z9, z10, z11, z12, z13, z14, z15, z16, z17, z18, z19, z20], [ar0, ar1, f11, f12, f13, ar5, ar6, ar7, ar8, ar9, ar10]) [] H := hT
      have t14 : 0 ≤ u10.toInt ∧ u10.toInt ≤ 2388 ∧ u10.toInt ≤ (((fV ar1 f12 f13) : Nat) : Int) := t14
      refine lv_aload_n hx hb dX11_fresh_29 rfl (lv_at hl 0 rfl) ?_
      refine lv_aload_n hx hb dX11_fresh_30 rfl (lv_at hl 0 rfl) ?_
      refine gX11_14 S hK hT ha kf_X11_45 dX11_fresh_31 (fun hk17 => ?_)
      refine lv_aload_n hx hb dX11_fresh_34 rfl (lv_at hl 0 rfl) ?_
      refine gX11_3 S hK hT ha kf_X11_18 dX11_fresh_35 (fun hk18 => ?_)
      refine lv_sipush (v := 360) hx hb dX11_fresh_38 (by decide) ?_
      refine lv_iload_n hx hb dX11_fresh_41 rfl (lv_at hl 1 rfl) ?_
      refine xi_imul hx hb ((by decide) : Int32.toInt 360 = (360 : Int)) (rfl : Int32.toInt p0 = p0.toInt) dX11_fresh_42 (fun x19 t20 => ?_)
      refine x_cv0 (x_runV (b := a) (As := [.ref (F a 14), .ref (F a 3), .int x19]) (rest := []) S (c_X11_layStates l E K F tl 0 z1 z2 u9 u10 z5 z6 z7 z8 z9 z10 z11 z12 z13 z14 z15 z16 z17 z18 z19 z20 ar0 ar1 f11 f12 f13 ar5 ar6 ar7 ar8 ar9 ar10 a (F a 14) (F a 3) x19 ha hk17 (XO.c hk18 (z_X11_fresh_1 p0.toInt x19.toInt x2.toInt z2.toInt e0 t1 (xbz b3) c4 t20 (xr p0) (xr x19) (xr x2) (xr z2))) hR) mv_X11_layStates km_X11_210 rfl rfl ⟨Nat.le_of_ble_eq_true rfl, Nat.le_of_ble_eq_true rfl⟩ (rc_13 hK hT ha) hK (fun _ => XP.blind) (fun U hU hW => XP.at hK hz hS hT hU hW) rfl hl.1 (Nat.le_of_ble_eq_true rfl) dX11_fresh_43 ⟨Nat.le_of_ble_eq_true rfl, Nat.le_of_ble_eq_true rfl⟩) hS ?_
      rintro _ H locs - hT hS
      refine lv_iconst (v := 0) hx hb dX11_fresh_46 (by decide) ?_
      refine lv_istore_n (lv' := [(3, .int 0), (0, .ref a), (1, .int p0), (2, .int p1)]) hx hb dX11_fresh_47 rfl hl (by decide) rfl (fun ls hl => ?_)
      refine lv_iconst (v := 0) hx hb dX11_fresh_48 (by decide) ?_
      refine lv_istore (lv' := [(4, .int 0), (3, .int 0), (0, .ref a), (1, .int p0), (2, .int p1)]) hx hb dX11_fresh_49 hl (by decide) rfl (fun ls hl => ?_)
      have L51 : ∀ (N25 : Nat) (x23 : Int32) (x24 : Int32) (H : Heap) (locs : List Loc) (ls : Array Slot), (0 : Int) ≤ x24.toInt → 2147483648 - x24.toInt < ((N25 : Nat) : Int) → TW E K F (tl, [0, z1, z2, u9, u10, z5, z6, z7, z8, z9, z10, z11, z12, z13, z14, z15, z16, z17, z18, z19, z20], [ar0, ar1, f11, f12, f13, ar5, ar6, ar7, ar8, ar9, ar10]) [] H → va_S (xA E) s.heap H locs → lv_has ls 8 [(0, .ref a), (2, .int p1), (3, .int x23), (4, .int x24)] → W p l e rm_X11_fresh s m args below meth c H locs 0 0 Q (F0 m 51 ls []) := by
        intro N25
        induction N25 with
        | zero =>
          intro x23 x24 H locs ls hf26 hm27
          exact absurd hm27 (z_X11_fresh_2 x24.toInt hf26 (xr x24))
        | succ N25 ih28 =>
          intro x23 x24 H locs ls hf26 hm27 hT hS hl
          refine lv_iload hx hb dX11_fresh_51 (lv_at hl 3 rfl) ?_
          refine lv_bipush (v := 12) hx hb dX11_fresh_53 (by decide) ?_
          refine xi_cge (tgt := 207) hx hb (rfl : Int32.toInt x24 = x24.toInt) ((by decide) : Int32.toInt 12 = (12 : Int)) dX11_fresh_55 (by decide) (fun c29 => ?_) (fun c29 => ?_)
          · refine lv_iload_n hx hb dX11_fresh_207 rfl (lv_at hl 2 rfl) ?_
            exact x_ri hx hb hr hlk hQ (Nat.le_of_ble_eq_true rfl) (Nat.le_of_ble_eq_true rfl) hS dX11_fresh_208 (0, u9, u10, f11, f12, f13) ⟨_, rfl⟩ hT.nil
          · refine lv_aload_n hx hb dX11_fresh_58 rfl (lv_at hl 0 rfl) ?_
            refine lv_iload hx hb dX11_fresh_59 (lv_at hl 3 rfl) ?_
            refine x_clp (x_runV (b := a) (As := [.int x24]) (rest := []) S (c_X11_isRule l E K F tl 0 z1 z2 u9 u10 z5 z6 z7 z8 z9 z10 z11 z12 z13 z14 z15 z16 z17 z18 z19 z20 ar0 ar1 f11 f12 f13 ar5 ar6 ar7 ar8 ar9 ar10 H a x24 ha hR) mv_X11_isRule km_X11_162 rfl rfl ⟨Nat.le_of_ble_eq_true rfl, Nat.le_of_ble_eq_true rfl⟩ (rc_13 hK hT ha) hK (fun _ => XPh.blind) (fun U hU hW => XPh.at hK hz hS hT hU hW) rfl hl.1 (Nat.le_of_ble_eq_true rfl) dX11_fresh_61 ⟨Nat.le_of_ble_eq_true rfl, Nat.le_of_ble_eq_true rfl⟩) hS ?_
            rintro _ _ locs ⟨x31, rfl, b32, t30⟩ hS
            have t30 : x31.toInt = 0 ∨ (x31.toInt = 1 ∧ 0 ≤ x24.toInt ∧ x24.toInt ≤ 11 ∧ 0 ≤ (aI ar1 (10 * x24.toInt + (0 : Int)))) := t30
            have J201 : ∀ (x33 : Int32) (H : Heap) (locs : List Loc) (ls : Array Slot), TW E K F (tl, [0, z1, z2, u9, u10, z5, z6, z7, z8, z9, z10, z11, z12, z13, z14, z15, z16, z17, z18, z19, z20], [ar0, ar1, f11, f12, f13, ar5, ar6, ar7, ar8, ar9, ar10]) [] H → va_S (xA E) s.heap H locs → lv_has ls 8 [(0, .ref a), (2, .int p1), (3, .int x33), (4, .int x24)] → W p l e rm_X11_fresh s m args below meth c H locs 0 0 Q (F0 m 201 ls []) := by
              intro x33 H locs ls hT hS hl
              refine xi_iinc (n := 1) (lv' := fun z9 => [(4, .int z9), (0, .ref a), (2, .int p1), (3, .int x33)]) (k := 3) hx hb (rfl : Int32.toInt x24 = x24.toInt) (by decide) dX11_fresh_201 hl rfl (by decide) (fun _ => rfl) (fun x34 ls t35 hl => ?_)
              have hl : lv_has ls 8 [(4, .int x34), (0, .ref a), (2, .int p1), (3, .int x33)] := hl
              refine lv_goto (tgt := 51) hx hb dX11_fresh_204 (by decide) ?_
              exact ih28 x33 x34 _ _ _ (z_X11_fresh_3 x24.toInt x31.toInt x34.toInt N25 (aI ar1 (10 * x24.toInt + (0 : Int))) hf26 hm27 c29 t30 (xbz b32) t35 (xr x24) (xr x31) (xr x34)) (z_X11_fresh_4 x24.toInt x31.toInt x34.toInt N25 (aI ar1 (10 * x24.toInt + (0 : Int))) hf26 hm27 c29 t30 (xbz b32) t35 (xr x24) (xr x31) (xr x34)) hT.nil hS (lv_sub hl [1, 2, 3, 0] rfl)
            refine xi_zeq (tgt := 201) hx hb (rfl : Int32.toInt x31 = x31.toInt) dX11_fresh_64 (by decide) (fun c36 => ?_) (fun c36 => ?_)
            · exact J201 x23 _ _ _ hT.nil hS (lv_sub hl [0, 1, 2, 3] rfl)
            · refine lv_aload_n hx hb dX11_fresh_67 rfl (lv_at hl 0 rfl) ?_
              refine lv_iload hx hb dX11_fresh_68 (lv_at hl 3 rfl) ?_
              refine lv_bipush (v := 6) hx hb dX11_fresh_70 (by decide) ?_
              refine x_clp (x_runV (b := a) (As := [.int x24, .int 6]) (rest := []) S (c_X11_of l E K F tl 0 z1 z2 u9 u10 z5 z6 z7 z8 z9 z10 z11 z12 z13 z14 z15 z16 z17 z18 z19 z20 ar0 ar1 f11 f12 f13 ar5 ar6 ar7 ar8 ar9 ar10 H a x24 6 ha (z_X11_fresh_5 x24.toInt x31.toInt N25 (aI ar1 (10 * x24.toInt + (0 : Int))) hf26 hm27 c29 t30 (xbz b32) c36 (xr x24) (xr x31)) (by decide)) mv_X11_of km_X11_165 rfl rfl ⟨Nat.le_of_ble_eq_true rfl, Nat.le_of_ble_eq_true rfl⟩ (rc_13 hK hT ha) hK (fun _ => XPh.blind) (fun U hU hW => XPh.at hK hz hS hT hU hW) rfl hl.1 (Nat.le_of_ble_eq_true rfl) dX11_fresh_72 ⟨Nat.le_of_ble_eq_true rfl, Nat.le_of_ble_eq_true rfl⟩) hS ?_
              rintro _ _ locs ⟨x38, rfl, t37⟩ hS
              have t37 : x38.toInt = (aI ar1 (10 * x24.toInt + (6 : Int))) := t37
              have v40 : (-1 ≤ (aI ar1 (10 * x24.toInt + (0 : Int))) ∧ (aI ar1 (10 * x24.toInt + (0 : Int))) ≤ 5) ∧ (0 ≤ (aI ar1 (10 * x24.toInt + (1 : Int))) ∧ (aI ar1 (10 * x24.toInt + (1 : Int))) ≤ 2) ∧ (0 ≤ (aI ar1 (10 * x24.toInt + (2 : Int))) ∧ (aI ar1 (10 * x24.toInt + (2 : Int))) ≤ 2) ∧ (-1 ≤ (aI ar1 (10 * x24.toInt + (3 : Int))) ∧ (aI ar1 (10 * x24.toInt + (3 : Int))) ≤ 2) ∧ ((aI ar1 (10 * x24.toInt + (0 : Int))) = 1 ∨ (aI ar1 (10 * x24.toInt + (0 : Int))) = 3 ∨ (aI ar1 (10 * x24.toInt + (0 : Int))) = 4 → 0 ≤ (aI ar1 (10 * x24.toInt + (3 : Int)))) := RV.row hR (z_X11_fresh_6 x24.toInt x31.toInt N25 (aI ar1 (10 * x24.toInt + (0 : Int))) hf26 hm27 c29 t30 (xbz b32) c36 (xr x24) (xr x31))
              refine lv_iconst (v := 1) hx hb dX11_fresh_75 (by decide) ?_
              refine xi_cne (tgt := 201) hx hb (rfl : Int32.toInt x38 = x38.toInt) ((by decide) : Int32.toInt 1 = (1 : Int)) dX11_fresh_76 (by decide) (fun c41 => ?_) (fun c41 => ?_)
              · exact J201 x23 _ _ _ hT.nil hS (lv_sub hl [0, 1, 2, 3] rfl)
              · refine lv_aload_n hx hb dX11_fresh_79 rfl (lv_at hl 0 rfl) ?_
                refine lv_iload hx hb dX11_fresh_80 (lv_at hl 3 rfl) ?_
                refine x_clp (x_runV (b := a) (As := [.int x24]) (rest := []) S (c_X11_firstSubject l E K F tl 0 z1 z2 u9 u10 z5 z6 z7 z8 z9 z10 z11 z12 z13 z14 z15 z16 z17 z18 z19 z20 ar0 ar1 f11 f12 f13 ar5 ar6 ar7 ar8 ar9 ar10 H a x24 ha hR (z_X11_fresh_7 x24.toInt x31.toInt N25 (aI ar1 (10 * x24.toInt + (0 : Int))) (aI ar1 (10 * x24.toInt + (3 : Int))) hf26 hm27 c29 t30 (xbz b32) c36 (v40).1 (v40).2.2.2.1 (v40).2.2.2.2 (xr x24) (xr x31))) mv_X11_firstSubject km_X11_179 rfl rfl ⟨Nat.le_of_ble_eq_true rfl, Nat.le_of_ble_eq_true rfl⟩ (rc_13 hK hT ha) hK (fun _ => XPh.blind) (fun U hU hW => XPh.at hK hz hS hT hU hW) rfl hl.1 (Nat.le_of_ble_eq_true rfl) dX11_fresh_82 ⟨Nat.le_of_ble_eq_true rfl, Nat.le_of_ble_eq_true rfl⟩) hS ?_
                rintro _ _ locs ⟨x43, rfl, t42⟩ hS
                have t42 : x43.toInt = (aF ar1 x24.toInt) ∧ -99 ≤ (aF ar1 x24.toInt) ∧ (aF ar1 x24.toInt) ≤ 0 ∧ 29 ≤ (aL ar1 x24.toInt) ∧ (aL ar1 x24.toInt) ≤ 99 ∧ (aL ar1 x24.toInt) - (aF ar1 x24.toInt) ≤ 198 := t42
                refine lv_istore (lv' := [(5, .int x43), (0, .ref a), (2, .int p1), (3, .int x23), (4, .int x24)]) hx hb dX11_fresh_85 hl (by decide) rfl (fun ls hl => ?_)
                have L87 : ∀ (N47 : Nat) (x45 : Int32) (x46 : Int32) (H : Heap) (locs : List Loc) (ls : Array Slot), (aF ar1 x24.toInt) ≤ x46.toInt ∧ x46.toInt ≤ (aL ar1 x24.toInt) + 1 → 2147483648 - x46.toInt < ((N47 : Nat) : Int) → TW E K F (tl, [0, z1, z2, u9, u10, z5, z6, z7, z8, z9, z10, z11, z12, z13, z14, z15, z16, z17, z18, z19, z20], [ar0, ar1, f11, f12, f13, ar5, ar6, ar7, ar8, ar9, ar10]) [] H → va_S (xA E) s.heap H locs → lv_has ls 8 [(0, .ref a), (2, .int p1), (3, .int x45), (4, .int x24), (5, .int x46)] → W p l e rm_X11_fresh s m args below meth c H locs 0 0 Q (F0 m 87 ls []) := by
                  intro N47
                  induction N47 with
                  | zero =>
                    intro x45 x46 H locs ls hf48 hm49
                    exact absurd hm49 (z_X11_fresh_8 x43.toInt x46.toInt (aF ar1 x24.toInt) (aL ar1 x24.toInt) hf48 t42 (xr x43) (xr x46))
                  | succ N47 ih50 =>
                    intro x45 x46 H locs ls hf48 hm49 hT hS hl
                    refine lv_iload hx hb dX11_fresh_87 (lv_at hl 4 rfl) ?_
                    refine lv_aload_n hx hb dX11_fresh_89 rfl (lv_at hl 0 rfl) ?_
                    refine lv_iload hx hb dX11_fresh_90 (lv_at hl 3 rfl) ?_
                    refine x_clp (x_runV (b := a) (As := [.int x24]) (rest := [.int x46]) S (c_X11_lastSubject l E K F tl 0 z1 z2 u9 u10 z5 z6 z7 z8 z9 z10 z11 z12 z13 z14 z15 z16 z17 z18 z19 z20 ar0 ar1 f11 f12 f13 ar5 ar6 ar7 ar8 ar9 ar10 H a x24 ha hR (z_X11_fresh_9 x24.toInt x31.toInt N25 (aI ar1 (10 * x24.toInt + (0 : Int))) (aI ar1 (10 * x24.toInt + (3 : Int))) hf26 hm27 c29 t30 (xbz b32) c36 (v40).1 (v40).2.2.2.1 (v40).2.2.2.2 (xr x24) (xr x31))) mv_X11_lastSubject km_X11_183 rfl rfl ⟨Nat.le_of_ble_eq_true rfl, Nat.le_of_ble_eq_true rfl⟩ (rc_13 hK hT ha) hK (fun _ => XPh.blind) (fun U hU hW => XPh.at hK hz hS hT hU hW) rfl hl.1 (Nat.le_of_ble_eq_true rfl) dX11_fresh_92 ⟨Nat.le_of_ble_eq_true rfl, Nat.le_of_ble_eq_true rfl⟩) hS ?_
                    rintro _ _ locs ⟨x52, rfl, t51⟩ hS
                    have t51 : x52.toInt = (aL ar1 x24.toInt) ∧ -99 ≤ (aF ar1 x24.toInt) ∧ (aF ar1 x24.toInt) ≤ 0 ∧ 29 ≤ (aL ar1 x24.toInt) ∧ (aL ar1 x24.toInt) ≤ 99 ∧ (aL ar1 x24.toInt) - (aF ar1 x24.toInt) ≤ 198 := t51
                    refine xi_cgt (tgt := 201) hx hb (rfl : Int32.toInt x46 = x46.toInt) (rfl : Int32.toInt x52 = x52.toInt) dX11_fresh_95 (by decide) (fun c54 => ?_) (fun c54 => ?_)
                    · exact J201 x45 _ _ _ hT.nil hS (lv_sub hl [0, 1, 2, 3] rfl)
                    · refine lv_iload hx hb dX11_fresh_98 (lv_at hl 3 rfl) ?_
                      refine lv_iload hx hb dX11_fresh_100 (lv_at hl 4 rfl) ?_
                      refine x_clp (x_runS (As := [.int x24, .int x46]) (rest := []) S (c_X11_placeOf l E K F tl 0 z1 z2 u9 u10 z5 z6 z7 z8 z9 z10 z11 z12 z13 z14 z15 z16 z17 z18 z19 z20 ar0 ar1 f11 f12 f13 ar5 ar6 ar7 ar8 ar9 ar10 H x24 x46) ms_X11_placeOf km_X11_186 rfl rfl ⟨Nat.le_of_ble_eq_true rfl, Nat.le_of_ble_eq_true rfl⟩ hK (fun _ => XPh.blind) (fun U hU hW => XPh.at hK hz hS hT hU hW) rfl hl.1 (Nat.le_of_ble_eq_true rfl) dX11_fresh_102 ⟨Nat.le_of_ble_eq_true rfl, Nat.le_of_ble_eq_true rfl⟩) hS ?_
                      rintro _ _ locs ⟨x56, rfl, t55⟩ hS
                      have t55 : 0 ≤ x24.toInt ∧ x24.toInt ≤ 11 ∧ -99 ≤ x46.toInt ∧ x46.toInt ≤ 99 → x56.toInt = 199 * x24.toInt + x46.toInt + 99 := t55
                      refine lv_istore (lv' := [(6, .int x56), (0, .ref a), (2, .int p1), (3, .int x45), (4, .int x24), (5, .int x46)]) hx hb dX11_fresh_105 hl (by decide) rfl (fun ls hl => ?_)
                      refine lv_aload_n hx hb dX11_fresh_107 rfl (lv_at hl 1 rfl) ?_
                      refine gX11_11 S hK hT ha kf_X11_36 dX11_fresh_108 (fun hk58 => ?_)
                      refine lv_iload hx hb dX11_fresh_111 (lv_at hl 0 rfl) ?_
                      refine al_0 S hK hT hk58 ar_38 (by decide) (z_X11_fresh_10 x24.toInt x31.toInt x43.toInt x46.toInt x52.toInt x56.toInt N25 N47 (aF ar1 x24.toInt) (aI ar1 (10 * x24.toInt + (0 : Int))) (aI ar1 (10 * x24.toInt + (3 : Int))) (aL ar1 x24.toInt) hf26 hm27 c29 t30 (xbz b32) c36 (v40).1 (v40).2.2.2.1 (v40).2.2.2.2 t42 hf48 hm49 t51 c54 t55 (xr x24) (xr x31) (xr x43) (xr x46) (xr x52) (xr x56)) dX11_fresh_113 (fun x59 o60 => ?_)
                      refine lv_aload_n hx hb dX11_fresh_114 rfl (lv_at hl 1 rfl) ?_
                      refine gX11_13 S hK hT ha kf_X11_42 dX11_fresh_115 (fun hk61 => ?_)
                      refine lv_iload hx hb dX11_fresh_118 (lv_at hl 0 rfl) ?_
                      refine al_0 S hK hT hk61 ar_38 (by decide) (z_X11_fresh_11 x24.toInt x31.toInt x43.toInt x46.toInt x52.toInt x56.toInt N25 N47 (aF ar1 x24.toInt) (aI ar1 (10 * x24.toInt + (0 : Int))) (aI ar1 (10 * x24.toInt + (3 : Int))) (aL ar1 x24.toInt) hf26 hm27 c29 t30 (xbz b32) c36 (v40).1 (v40).2.2.2.1 (v40).2.2.2.2 t42 hf48 hm49 t51 c54 t55 (xr x24) (xr x31) (xr x43) (xr x46) (xr x52) (xr x56)) dX11_fresh_120 (fun x62 o63 => ?_)
                      have J129 : ∀ (x64 : Int32) (H : Heap) (locs : List Loc) (ls : Array Slot), TW E K F (tl, [0, z1, z2, u9, u10, z5, z6, z7, z8, z9, z10, z11, z12, z13, z14, z15, z16, z17, z18, z19, z20], [ar0, ar1, f11, f12, f13, ar5, ar6, ar7, ar8, ar9, ar10]) [] H → va_S (xA E) s.heap H locs → lv_has ls 8 [(0, .ref a), (2, .int p1), (3, .int x45), (4, .int x24), (5, .int x46), (6, .int x56)] → W p l e rm_X11_fresh s m args below meth c H locs 0 0 Q (F0 m 129 ls [.int x64]) := by
                        intro x64 H locs ls hT hS hl
                        refine lv_istore (lv' := [(7, .int x64), (0, .ref a), (2, .int p1), (3, .int x45), (4, .int x24), (5, .int x46), (6, .int x56)]) hx hb dX11_fresh_129 hl (by decide) rfl (fun ls hl => ?_)
                        refine lv_iload_n hx hb dX11_fresh_131 rfl (lv_at hl 3 rfl) ?_
                        refine lv_iload_n hx hb dX11_fresh_132 rfl (lv_at hl 2 rfl) ?_
                        have J193 : ∀ (x65 : Int32) (H : Heap) (locs : List Loc) (ls : Array Slot), TW E K F (tl, [0, z1, z2, u9, u10, z5, z6, z7, z8, z9, z10, z11, z12, z13, z14, z15, z16, z17, z18, z19, z20], [ar0, ar1, f11, f12, f13, ar5, ar6, ar7, ar8, ar9, ar10]) [] H → va_S (xA E) s.heap H locs → lv_has ls 8 [(0, .ref a), (2, .int p1), (4, .int x24), (5, .int x46)] → W p l e rm_X11_fresh s m args below meth c H locs 0 0 Q (F0 m 193 ls [.int x65, .int x45]) := by
                          intro x65 H locs ls hT hS hl
                          refine xi_iadd hx hb (rfl : Int32.toInt x45 = x45.toInt) (rfl : Int32.toInt x65 = x65.toInt) dX11_fresh_193 (fun x66 t67 => ?_)
                          refine lv_istore_n (lv' := [(3, .int x66), (0, .ref a), (2, .int p1), (4, .int x24), (5, .int x46)]) hx hb dX11_fresh_194 rfl hl (by decide) rfl (fun ls hl => ?_)
                          refine xi_iinc (n := 1) (lv' := fun z9 => [(5, .int z9), (3, .int x66), (0, .ref a), (2, .int p1), (4, .int x24)]) (k := 4) hx hb (rfl : Int32.toInt x46 = x46.toInt) (by decide) dX11_fresh_195 hl rfl (by decide) (fun _ => rfl) (fun x68 ls t69 hl => ?_)
                          have hl : lv_has ls 8 [(5, .int x68), (3, .int x66), (0, .ref a), (2, .int p1), (4, .int x24)] := hl
                          refine lv_goto (tgt := 87) hx hb dX11_fresh_198 (by decide) ?_
                          exact ih50 x66 x68 _ _ _ (z_X11_fresh_12 x24.toInt x31.toInt x43.toInt x46.toInt x52.toInt x56.toInt x68.toInt N25 N47 (aF ar1 x24.toInt) (aI ar1 (10 * x24.toInt + (0 : Int))) (aI ar1 (10 * x24.toInt + (3 : Int))) (aL ar1 x24.toInt) hf26 hm27 c29 t30 (xbz b32) c36 (v40).1 (v40).2.2.2.1 (v40).2.2.2.2 t42 hf48 hm49 t51 c54 t55 t69 (xr x24) (xr x31) (xr x43) (xr x46) (xr x52) (xr x56) (xr x68)) (z_X11_fresh_13 x24.toInt x31.toInt x43.toInt x46.toInt x52.toInt x56.toInt x68.toInt N25 N47 (aF ar1 x24.toInt) (aI ar1 (10 * x24.toInt + (0 : Int))) (aI ar1 (10 * x24.toInt + (3 : Int))) (aL ar1 x24.toInt) hf26 hm27 c29 t30 (xbz b32) c36 (v40).1 (v40).2.2.2.1 (v40).2.2.2.2 t42 hf48 hm49 t51 c54 t55 t69 (xr x24) (xr x31) (xr x43) (xr x46) (xr x52) (xr x56) (xr x68)) hT.nil hS (lv_sub hl [2, 3, 1, 4, 0] rfl)
                        refine xi_zne (tgt := 166) hx hb (rfl : Int32.toInt p1 = p1.toInt) dX11_fresh_133 (by decide) (fun c70 => ?_) (fun c70 => ?_)
                        · refine lv_iload hx hb dX11_fresh_166 (lv_at hl 0 rfl) ?_
                          have J192 : ∀ (H : Heap) (locs : List Loc) (ls : Array Slot), TW E K F (tl, [0, z1, z2, u9, u10, z5, z6, z7, z8, z9, z10, z11, z12, z13, z14, z15, z16, z17, z18, z19, z20], [ar0, ar1, f11, f12, f13, ar5, ar6, ar7, ar8, ar9, ar10]) [] H → va_S (xA E) s.heap H locs → lv_has ls 8 [(0, .ref a), (2, .int p1), (4, .int x24), (5, .int x46)] → W p l e rm_X11_fresh s m args below meth c H locs 0 0 Q (F0 m 192 ls [.int x45]) := by
                            intro H locs ls hT hS hl
                            refine lv_iconst (v := 0) hx hb dX11_fresh_192 (by decide) ?_
                            exact J193 0 _ _ _ hT.nil hS (lv_sub hl [0, 1, 2, 3] rfl)
                          refine xi_zne (tgt := 192) hx hb (rfl : Int32.toInt x64 = x64.toInt) dX11_fresh_168 (by decide) (fun c71 => ?_) (fun c71 => ?_)
                          · exact J192 _ _ _ hT.nil hS (lv_sub hl [1, 2, 4, 5] rfl)
                          · refine lv_aload_n hx hb dX11_fresh_171 rfl (lv_at hl 1 rfl) ?_
                            refine gX11_14 S hK hT ha kf_X11_45 dX11_fresh_172 (fun hk72 => ?_)
                            refine lv_iload hx hb dX11_fresh_175 (lv_at hl 6 rfl) ?_
                            refine al_0 S hK hT hk72 ar_38 (by decide) (z_X11_fresh_14 x24.toInt x31.toInt x43.toInt x46.toInt x52.toInt x56.toInt N25 N47 (aF ar1 x24.toInt) (aI ar1 (10 * x24.toInt + (0 : Int))) (aI ar1 (10 * x24.toInt + (3 : Int))) (aL ar1 x24.toInt) hf26 hm27 c29 t30 (xbz b32) c36 (v40).1 (v40).2.2.2.1 (v40).2.2.2.2 t42 hf48 hm49 t51 c54 t55 (xr x24) (xr x31) (xr x43) (xr x46) (xr x52) (xr x56)) dX11_fresh_177 (fun x73 o74 => ?_)
                            refine lv_aload_n hx hb dX11_fresh_178 rfl (lv_at hl 1 rfl) ?_
                            refine gX11_13 S hK hT ha kf_X11_42 dX11_fresh_179 (fun hk75 => ?_)
                            refine lv_iload hx hb dX11_fresh_182 (lv_at hl 6 rfl) ?_
                            refine al_0 S hK hT hk75 ar_38 (by decide) (z_X11_fresh_15 x24.toInt x31.toInt x43.toInt x46.toInt x52.toInt x56.toInt N25 N47 (aF ar1 x24.toInt) (aI ar1 (10 * x24.toInt + (0 : Int))) (aI ar1 (10 * x24.toInt + (3 : Int))) (aL ar1 x24.toInt) hf26 hm27 c29 t30 (xbz b32) c36 (v40).1 (v40).2.2.2.1 (v40).2.2.2.2 t42 hf48 hm49 t51 c54 t55 (xr x24) (xr x31) (xr x43) (xr x46) (xr x52) (xr x56)) dX11_fresh_184 (fun x76 o77 => ?_)
                            refine xi_ceq (tgt := 192) hx hb (rfl : Int32.toInt x73 = x73.toInt) (rfl : Int32.toInt x76 = x76.toInt) dX11_fresh_185 (by decide) (fun c78 => ?_) (fun c78 => ?_)
                            · exact J192 _ _ _ hT.nil hS (lv_sub hl [1, 2, 4, 5] rfl)
                            · refine lv_iconst (v := 1) hx hb dX11_fresh_188 (by decide) ?_
                              refine lv_goto (tgt := 193) hx hb dX11_fresh_189 (by decide) ?_
                              exact J193 1 _ _ _ hT.nil hS (lv_sub hl [1, 2, 4, 5] rfl)
                        · refine lv_iload hx hb dX11_fresh_136 (lv_at hl 0 rfl) ?_
                          have J162 : ∀ (H : Heap) (locs : List Loc) (ls : Array Slot), TW E K F (tl, [0, z1, z2, u9, u10, z5, z6, z7, z8, z9, z10, z11, z12, z13, z14, z15, z16, z17, z18, z19, z20], [ar0, ar1, f11, f12, f13, ar5, ar6, ar7, ar8, ar9, ar10]) [] H → va_S (xA E) s.heap H locs → lv_has ls 8 [(0, .ref a), (2, .int p1), (4, .int x24), (5, .int x46)] → W p l e rm_X11_fresh s m args below meth c H locs 0 0 Q (F0 m 162 ls [.int x45]) := by
                            intro H locs ls hT hS hl
                            refine lv_iconst (v := 0) hx hb dX11_fresh_162 (by decide) ?_
                            refine lv_goto (tgt := 193) hx hb dX11_fresh_163 (by decide) ?_
                            exact J193 0 _ _ _ hT.nil hS (lv_sub hl [0, 1, 2, 3] rfl)
                          refine xi_zeq (tgt := 162) hx hb (rfl : Int32.toInt x64 = x64.toInt) dX11_fresh_138 (by decide) (fun c79 => ?_) (fun c79 => ?_)
                          · exact J162 _ _ _ hT.nil hS (lv_sub hl [1, 2, 4, 5] rfl)
                          · refine lv_aload_n hx hb dX11_fresh_141 rfl (lv_at hl 1 rfl) ?_
                            refine gX11_11 S hK hT ha kf_X11_36 dX11_fresh_142 (fun hk80 => ?_)
                            refine lv_iload hx hb dX11_fresh_145 (lv_at hl 6 rfl) ?_
                            refine al_0 S hK hT hk80 ar_38 (by decide) (z_X11_fresh_16 x24.toInt x31.toInt x43.toInt x46.toInt x52.toInt x56.toInt N25 N47 (aF ar1 x24.toInt) (aI ar1 (10 * x24.toInt + (0 : Int))) (aI ar1 (10 * x24.toInt + (3 : Int))) (aL ar1 x24.toInt) hf26 hm27 c29 t30 (xbz b32) c36 (v40).1 (v40).2.2.2.1 (v40).2.2.2.2 t42 hf48 hm49 t51 c54 t55 (xr x24) (xr x31) (xr x43) (xr x46) (xr x52) (xr x56)) dX11_fresh_147 (fun x81 o82 => ?_)
                            refine lv_aload_n hx hb dX11_fresh_148 rfl (lv_at hl 1 rfl) ?_
                            refine gX11_14 S hK hT ha kf_X11_45 dX11_fresh_149 (fun hk83 => ?_)
                            refine lv_iload hx hb dX11_fresh_152 (lv_at hl 6 rfl) ?_
                            refine al_0 S hK hT hk83 ar_38 (by decide) (z_X11_fresh_17 x24.toInt x31.toInt x43.toInt x46.toInt x52.toInt x56.toInt N25 N47 (aF ar1 x24.toInt) (aI ar1 (10 * x24.toInt + (0 : Int))) (aI ar1 (10 * x24.toInt + (3 : Int))) (aL ar1 x24.toInt) hf26 hm27 c29 t30 (xbz b32) c36 (v40).1 (v40).2.2.2.1 (v40).2.2.2.2 t42 hf48 hm49 t51 c54 t55 (xr x24) (xr x31) (xr x43) (xr x46) (xr x52) (xr x56)) dX11_fresh_154 (fun x84 o85 => ?_)
                            refine xi_ceq (tgt := 162) hx hb (rfl : Int32.toInt x81 = x81.toInt) (rfl : Int32.toInt x84 = x84.toInt) dX11_fresh_155 (by decide) (fun c86 => ?_) (fun c86 => ?_)
                            · exact J162 _ _ _ hT.nil hS (lv_sub hl [1, 2, 4, 5] rfl)
                            · refine lv_iconst (v := 1) hx hb dX11_fresh_158 (by decide) ?_
                              refine lv_goto (tgt := 193) hx hb dX11_fresh_159 (by decide) ?_
                              exact J193 1 _ _ _ hT.nil hS (lv_sub hl [1, 2, 4, 5] rfl)
                      refine xi_ceq (tgt := 128) hx hb (rfl : Int32.toInt x59 = x59.toInt) (rfl : Int32.toInt x62 = x62.toInt) dX11_fresh_121 (by decide) (fun c87 => ?_) (fun c87 => ?_)
                      · refine lv_iconst (v := 0) hx hb dX11_fresh_128 (by decide) ?_
                        exact J129 0 _ _ _ hT.nil hS (lv_sub hl [1, 2, 3, 4, 5, 0] rfl)
                      · refine lv_iconst (v := 1) hx hb dX11_fresh_124 (by decide) ?_
                        refine lv_goto (tgt := 129) hx hb dX11_fresh_125 (by decide) ?_
                        exact J129 1 _ _ _ hT.nil hS (lv_sub hl [1, 2, 3, 4, 5, 0] rfl)
                exact L87 4294967297 x23 x43 _ _ _ (z_X11_fresh_18 x43.toInt (aF ar1 x24.toInt) (aL ar1 x24.toInt) t42 (xr x43)) (z_X11_fresh_19 x43.toInt (aF ar1 x24.toInt) (aL ar1 x24.toInt) t42 (xr x43)) hT.nil hS (lv_sub hl [1, 2, 3, 4, 0] rfl)
      exact L51 4294967297 0 0 _ _ _ (by decide) (by decide) hT.nil hS (lv_sub hl [2, 4, 1, 0] rfl)
    · refine lv_iconst (v := (-1)) hx hb dX11_fresh_23 (by decide) ?_
      exact x_ri hx hb hr hlk hQ (Nat.le_of_ble_eq_true rfl) (Nat.le_of_ble_eq_true rfl) hS dX11_fresh_24 (0, z3, z4, ar2, ar3, ar4) ⟨_, rfl⟩ hT.nil

theorem z_X11_question_1 (a0 : Int) (a1 : Int) (a2 : Int) (h0 : a1 = 0 ∨ (a1 = 1 ∧ 0 ≤ a0 ∧ a0 ≤ 11 ∧ 0 ≤ a2)) (h1 : a1 = 0 ∨ a1 = 1) (h2 : ¬ (a1 = 0)) (r0 : -2147483648 ≤ a0 ∧ a0 < 2147483648) (r1 : -2147483648 ≤ a1 ∧ a1 < 2147483648) : 0 ≤ a0 ∧ a0 ≤ 11 := by first | (clear h1 h2; omega) | omega
theorem z_X11_question_2 (a0 : Int) (a1 : Int) (a2 : Int) (h0 : a1 = 0 ∨ (a1 = 1 ∧ 0 ≤ a0 ∧ a0 ≤ 11 ∧ 0 ≤ a2)) (h1 : a1 = 0 ∨ a1 = 1) (h2 : ¬ (a1 = 0)) (r0 : -2147483648 ≤ a0 ∧ a0 < 2147483648) (r1 : -2147483648 ≤ a1 ∧ a1 < 2147483648) : 0 ≤ a0 ∧ a0 ≤ 11 := by first | (clear h1 h2; omega) | omega
theorem z_X11_question_3 (a0 : Int) (a1 : Int) (a2 : Int) (a3 : Int) (h0 : a1 = 0 ∨ (a1 = 1 ∧ 0 ≤ a0 ∧ a0 ≤ 11 ∧ 0 ≤ a2)) (h1 : a1 = 0 ∨ a1 = 1) (h2 : ¬ (a1 = 0)) (h3 : -1 ≤ a2 ∧ a2 ≤ 5) (h4 : -1 ≤ a3 ∧ a3 ≤ 2) (h5 : a2 = 1 ∨ a2 = 3 ∨ a2 = 4 → 0 ≤ a3) (r0 : -2147483648 ≤ a0 ∧ a0 < 2147483648) (r1 : -2147483648 ≤ a1 ∧ a1 < 2147483648) : 0 ≤ a0 ∧ a0 ≤ 11 := by first | (clear h1 h2 h5; omega) | omega
theorem z_X11_question_4 (a0 : Int) (a1 : Int) (a2 : Int) (a3 : Int) (h0 : a1 = 0 ∨ (a1 = 1 ∧ 0 ≤ a0 ∧ a0 ≤ 11 ∧ 0 ≤ a2)) (h1 : a1 = 0 ∨ a1 = 1) (h2 : ¬ (a1 = 0)) (h3 : -1 ≤ a2 ∧ a2 ≤ 5) (h4 : -1 ≤ a3 ∧ a3 ≤ 2) (h5 : a2 = 1 ∨ a2 = 3 ∨ a2 = 4 → 0 ≤ a3) (r0 : -2147483648 ≤ a0 ∧ a0 < 2147483648) (r1 : -2147483648 ≤ a1 ∧ a1 < 2147483648) : 0 ≤ a0 ∧ a0 ≤ 11 := by first | (clear h1 h2 h5; omega) | omega
theorem z_X11_question_5 (a0 : Int) (a1 : Int) (a2 : Int) (a3 : Int) (h0 : a1 = 0 ∨ (a1 = 1 ∧ 0 ≤ a0 ∧ a0 ≤ 11 ∧ 0 ≤ a2)) (h1 : a1 = 0 ∨ a1 = 1) (h2 : ¬ (a1 = 0)) (h3 : -1 ≤ a2 ∧ a2 ≤ 5) (h4 : -1 ≤ a3 ∧ a3 ≤ 2) (h5 : a2 = 1 ∨ a2 = 3 ∨ a2 = 4 → 0 ≤ a3) (r0 : -2147483648 ≤ a0 ∧ a0 < 2147483648) (r1 : -2147483648 ≤ a1 ∧ a1 < 2147483648) : 0 ≤ a2 := by first | (clear h1 h2; omega) | omega
theorem z_X11_question_6 (a0 : Int) (a1 : Int) (a2 : Int) (a3 : Int) (a4 : Int) (a5 : Int) (h0 : a3 = a4 ∧ -99 ≤ a4 ∧ a4 ≤ 0 ∧ 29 ≤ a5 ∧ a5 ≤ 99 ∧ a5 - a4 ≤ 198) (h1 : a1 = a5 ∧ -99 ≤ a4 ∧ a4 ≤ 0 ∧ 29 ≤ a5 ∧ a5 ≤ 99 ∧ a5 - a4 ≤ 198) (h2 : (a2 = 1 ∧ a3 ≤ a0 ∧ a0 ≤ a1) ∨ (a2 = 0 ∧ (a0 < a3 ∨ a1 < a0))) (h3 : ¬ (a2 = 0)) (r0 : -2147483648 ≤ a0 ∧ a0 < 2147483648) (r1 : -2147483648 ≤ a1 ∧ a1 < 2147483648) (r2 : -2147483648 ≤ a2 ∧ a2 < 2147483648) (r3 : -2147483648 ≤ a3 ∧ a3 < 2147483648) : a4 ≤ a0 ∧ a0 ≤ a5 := by first | (clear h3; omega) | omega
theorem z_X11_question_7 (a0 : Int) (a1 : Int) (a2 : Int) (a3 : Int) (h0 : a1 = 0 ∨ (a1 = 1 ∧ 0 ≤ a0 ∧ a0 ≤ 11 ∧ 0 ≤ a2)) (h1 : a1 = 0 ∨ a1 = 1) (h2 : ¬ (a1 = 0)) (h3 : -1 ≤ a2 ∧ a2 ≤ 5) (h4 : -1 ≤ a3 ∧ a3 ≤ 2) (h5 : a2 = 1 ∨ a2 = 3 ∨ a2 = 4 → 0 ≤ a3) (r0 : -2147483648 ≤ a0 ∧ a0 < 2147483648) (r1 : -2147483648 ≤ a1 ∧ a1 < 2147483648) : 0 ≤ a0 ∧ a0 ≤ 11 := by first | (clear h1 h2 h5; omega) | omega
theorem z_X11_question_8 (a0 : Int) (a1 : Int) (a2 : Int) (a3 : Int) (h0 : a1 = 0 ∨ (a1 = 1 ∧ 0 ≤ a0 ∧ a0 ≤ 11 ∧ 0 ≤ a2)) (h1 : a1 = 0 ∨ a1 = 1) (h2 : ¬ (a1 = 0)) (h3 : -1 ≤ a2 ∧ a2 ≤ 5) (h4 : -1 ≤ a3 ∧ a3 ≤ 2) (h5 : a2 = 1 ∨ a2 = 3 ∨ a2 = 4 → 0 ≤ a3) (r0 : -2147483648 ≤ a0 ∧ a0 < 2147483648) (r1 : -2147483648 ≤ a1 ∧ a1 < 2147483648) : 0 ≤ a2 := by first | (clear h1 h2; omega) | omega
theorem z_X11_question_9 (a0 : Int) (a1 : Int) (a2 : Int) (a3 : Int) (a4 : Int) (a5 : Int) (h0 : a3 = a4 ∧ -99 ≤ a4 ∧ a4 ≤ 0 ∧ 29 ≤ a5 ∧ a5 ≤ 99 ∧ a5 - a4 ≤ 198) (h1 : a1 = a5 ∧ -99 ≤ a4 ∧ a4 ≤ 0 ∧ 29 ≤ a5 ∧ a5 ≤ 99 ∧ a5 - a4 ≤ 198) (h2 : (a2 = 1 ∧ a3 ≤ a0 ∧ a0 ≤ a1) ∨ (a2 = 0 ∧ (a0 < a3 ∨ a1 < a0))) (h3 : ¬ (a2 = 0)) (r0 : -2147483648 ≤ a0 ∧ a0 < 2147483648) (r1 : -2147483648 ≤ a1 ∧ a1 < 2147483648) (r2 : -2147483648 ≤ a2 ∧ a2 < 2147483648) (r3 : -2147483648 ≤ a3 ∧ a3 < 2147483648) : a4 ≤ a0 ∧ a0 ≤ a5 := by first | (clear h3; omega) | omega
abbrev rm_X11_question : Room := { frames := 4, cells := 0, slots := 0, locals := 104 }
set_option maxHeartbeats 4000000 in
set_option maxRecDepth 100000 in
theorem c_X11_question (l : Launch) (E : XE) (K : Nat → Nat) (F : Nat → Nat → Nat) (tl z0 z1 z2 z3 z4 z5 z6 z7 z8 z9 z10 z11 z12 z13 z14 z15 z16 z17 z18 z19 z20 : Int32) (ar0 ar1 ar2 ar3 ar4 ar5 ar6 ar7 ar8 ar9 ar10 : Nat → Int32) (a : Nat) (p0 : Int32) (p1 : Int32) (p2 : Int32) (ha : K a = 13) (hR : RV ar1) : Met l yX11_question (xw yX11_question cX11_question 4 (some .int)) rm_X11_question (va_Pc [.ref a, .int p0, .int p1, .int p2] (XP E K F (tl, [z0, z1, z2, z3, z4, z5, z6, z7, z8, z9, z10, z11, z12, z13, z14, z15, z16, z17, z18, z19, z20], [ar0, ar1, ar2, ar3, ar4, ar5, ar6, ar7, ar8, ar9, ar10]))) (XQ E (fun v (u : Int32) => ∃ r : Int32, v = .int r) (fun u H => TW E K F (tl, [u, z1, z2, z3, z4, z5, z6, z7, z8, z9, z10, z11, z12, z13, z14, z15, z16, z17, z18, z19, z20], [ar0, ar1, ar2, ar3, ar4, ar5, ar6, ar7, ar8, ar9, ar10]) [] H)) 0 0 (xA E) := by
  refine x_enter (by decide) (Nat.le_of_ble_eq_true rfl) ?_
  intro p e s m args below meth c Q S hr hlk hnm hQ hP ls hl
  obtain ⟨hz, hK, hT⟩ := hP
  obtain ⟨hx, hb, -, -, -⟩ := id S
  obtain ⟨H, hT, hS, hgo⟩ : ∃ H : Heap, TW E K F (tl, [z0, z1, z2, z3, z4, z5, z6, z7, z8, z9, z10, z11, z12, z13, z14, z15, z16, z17, z18, z19, z20], [ar0, ar1, ar2, ar3, ar4, ar5, ar6, ar7, ar8, ar9, ar10]) [] H ∧ va_S (xA E) s.heap H [] ∧ H = s.heap := ⟨_, hT, va_S.rf, rfl⟩
  rw [← hgo]
  have hl : lv_has ls 4 [(0, .ref a), (1, .int p0), (2, .int p1), (3, .int p2)] := hl
  refine lv_aload_n hx hb dX11_question_0 rfl (lv_at hl 0 rfl) ?_
  refine lv_iconst (v := 0) hx hb dX11_question_1 (by decide) ?_
  refine pX11_0 (kq := []) (v := 0) S hK hT hS ha kf_X11_134 (Nat.le_of_ble_eq_true rfl) dX11_question_2 (fun _ h => by cases h) (fun H locs hT hS => ?_)
  have hT : TW E K F (tl, [0, z1, z2, z3, z4, z5, z6, z7, z8, z9, z10, z11, z12, z13, z14, z15, z16, z17, z18, z19, z20], [ar0, ar1, ar2, ar3, ar4, ar5, ar6, ar7, ar8, ar9, ar10]) [] H := hT
  refine lv_aload_n hx hb dX11_question_5 rfl (lv_at hl 0 rfl) ?_
  refine lv_iload_n hx hb dX11_question_6 rfl (lv_at hl 1 rfl) ?_
  refine x_clp (x_runV (b := a) (As := [.int p0]) (rest := []) S (c_X11_isRule l E K F tl 0 z1 z2 z3 z4 z5 z6 z7 z8 z9 z10 z11 z12 z13 z14 z15 z16 z17 z18 z19 z20 ar0 ar1 ar2 ar3 ar4 ar5 ar6 ar7 ar8 ar9 ar10 H a p0 ha hR) mv_X11_isRule km_X11_162 rfl rfl ⟨Nat.le_of_ble_eq_true rfl, Nat.le_of_ble_eq_true rfl⟩ (rc_13 hK hT ha) hK (fun _ => XPh.blind) (fun U hU hW => XPh.at hK hz hS hT hU hW) rfl hl.1 (Nat.le_of_ble_eq_true rfl) dX11_question_7 ⟨Nat.le_of_ble_eq_true rfl, Nat.le_of_ble_eq_true rfl⟩) hS ?_
  rintro _ _ locs ⟨x2, rfl, b3, t1⟩ hS
  have t1 : x2.toInt = 0 ∨ (x2.toInt = 1 ∧ 0 ≤ p0.toInt ∧ p0.toInt ≤ 11 ∧ 0 ≤ (aI ar1 (10 * p0.toInt + (0 : Int)))) := t1
  refine xi_zeq (tgt := 43) hx hb (rfl : Int32.toInt x2 = x2.toInt) dX11_question_10 (by decide) (fun c4 => ?_) (fun c4 => ?_)
  · refine lv_ldc (v := (-2147483648)) hx hb S.2.2.2.1 (S.2.2.2.2 _ (List.mem_cons_of_mem _ kc_X11_57)) dX11_question_43 ?_
    exact x_ri hx hb hr hlk hQ (Nat.le_of_ble_eq_true rfl) (Nat.le_of_ble_eq_true rfl) hS dX11_question_45 (0) ⟨_, rfl⟩ hT.nil
  · refine lv_iload_n hx hb dX11_question_13 rfl (lv_at hl 2 rfl) ?_
    refine lv_i2l (v := p1.toInt64) hx hb dX11_question_14 rfl ?_
    refine lv_aload_n hx hb dX11_question_15 rfl (lv_at hl 0 rfl) ?_
    refine lv_iload_n hx hb dX11_question_16 rfl (lv_at hl 1 rfl) ?_
    refine x_clp (x_runV (b := a) (As := [.int p0]) (rest := [.long p1.toInt64]) S (c_X11_firstSubject l E K F tl 0 z1 z2 z3 z4 z5 z6 z7 z8 z9 z10 z11 z12 z13 z14 z15 z16 z17 z18 z19 z20 ar0 ar1 ar2 ar3 ar4 ar5 ar6 ar7 ar8 ar9 ar10 H a p0 ha hR (z_X11_question_1 p0.toInt x2.toInt (aI ar1 (10 * p0.toInt + (0 : Int))) t1 (xbz b3) c4 (xr p0) (xr x2))) mv_X11_firstSubject km_X11_179 rfl rfl ⟨Nat.le_of_ble_eq_true rfl, Nat.le_of_ble_eq_true rfl⟩ (rc_13 hK hT ha) hK (fun _ => XPh.blind) (fun U hU hW => XPh.at hK hz hS hT hU hW) rfl hl.1 (Nat.le_of_ble_eq_true rfl) dX11_question_17 ⟨Nat.le_of_ble_eq_true rfl, Nat.le_of_ble_eq_true rfl⟩) hS ?_
    rintro _ _ locs ⟨x6, rfl, t5⟩ hS
    have t5 : x6.toInt = (aF ar1 p0.toInt) ∧ -99 ≤ (aF ar1 p0.toInt) ∧ (aF ar1 p0.toInt) ≤ 0 ∧ 29 ≤ (aL ar1 p0.toInt) ∧ (aL ar1 p0.toInt) ≤ 99 ∧ (aL ar1 p0.toInt) - (aF ar1 p0.toInt) ≤ 198 := t5
    have v8 : (-1 ≤ (aI ar1 (10 * p0.toInt + (0 : Int))) ∧ (aI ar1 (10 * p0.toInt + (0 : Int))) ≤ 5) ∧ (0 ≤ (aI ar1 (10 * p0.toInt + (1 : Int))) ∧ (aI ar1 (10 * p0.toInt + (1 : Int))) ≤ 2) ∧ (0 ≤ (aI ar1 (10 * p0.toInt + (2 : Int))) ∧ (aI ar1 (10 * p0.toInt + (2 : Int))) ≤ 2) ∧ (-1 ≤ (aI ar1 (10 * p0.toInt + (3 : Int))) ∧ (aI ar1 (10 * p0.toInt + (3 : Int))) ≤ 2) ∧ ((aI ar1 (10 * p0.toInt + (0 : Int))) = 1 ∨ (aI ar1 (10 * p0.toInt + (0 : Int))) = 3 ∨ (aI ar1 (10 * p0.toInt + (0 : Int))) = 4 → 0 ≤ (aI ar1 (10 * p0.toInt + (3 : Int)))) := RV.row hR (z_X11_question_2 p0.toInt x2.toInt (aI ar1 (10 * p0.toInt + (0 : Int))) t1 (xbz b3) c4 (xr p0) (xr x2))
    refine lv_i2l (v := x6.toInt64) hx hb dX11_question_20 rfl ?_
    refine lv_aload_n hx hb dX11_question_21 rfl (lv_at hl 0 rfl) ?_
    refine lv_iload_n hx hb dX11_question_22 rfl (lv_at hl 1 rfl) ?_
    refine x_clp (x_runV (b := a) (As := [.int p0]) (rest := [.long x6.toInt64, .long p1.toInt64]) S (c_X11_lastSubject l E K F tl 0 z1 z2 z3 z4 z5 z6 z7 z8 z9 z10 z11 z12 z13 z14 z15 z16 z17 z18 z19 z20 ar0 ar1 ar2 ar3 ar4 ar5 ar6 ar7 ar8 ar9 ar10 H a p0 ha hR (z_X11_question_3 p0.toInt x2.toInt (aI ar1 (10 * p0.toInt + (0 : Int))) (aI ar1 (10 * p0.toInt + (3 : Int))) t1 (xbz b3) c4 (v8).1 (v8).2.2.2.1 (v8).2.2.2.2 (xr p0) (xr x2))) mv_X11_lastSubject km_X11_183 rfl rfl ⟨Nat.le_of_ble_eq_true rfl, Nat.le_of_ble_eq_true rfl⟩ (rc_13 hK hT ha) hK (fun _ => XPh.blind) (fun U hU hW => XPh.at hK hz hS hT hU hW) rfl hl.1 (Nat.le_of_ble_eq_true rfl) dX11_question_23 ⟨Nat.le_of_ble_eq_true rfl, Nat.le_of_ble_eq_true rfl⟩) hS ?_
    rintro _ _ locs ⟨x10, rfl, t9⟩ hS
    have t9 : x10.toInt = (aL ar1 p0.toInt) ∧ -99 ≤ (aF ar1 p0.toInt) ∧ (aF ar1 p0.toInt) ≤ 0 ∧ 29 ≤ (aL ar1 p0.toInt) ∧ (aL ar1 p0.toInt) ≤ 99 ∧ (aL ar1 p0.toInt) - (aF ar1 p0.toInt) ≤ 198 := t9
    refine lv_i2l (v := x10.toInt64) hx hb dX11_question_26 rfl ?_
    refine x_clp (x_runS (As := [.long p1.toInt64, .long x6.toInt64, .long x10.toInt64]) (rest := []) S (c_X11_in l E K F tl 0 z1 z2 z3 z4 z5 z6 z7 z8 z9 z10 z11 z12 z13 z14 z15 z16 z17 z18 z19 z20 ar0 ar1 ar2 ar3 ar4 ar5 ar6 ar7 ar8 ar9 ar10 H p1.toInt64 x6.toInt64 x10.toInt64 p1.toInt x6.toInt x10.toInt (xl_i2l (rfl : Int32.toInt p1 = p1.toInt)) (xl_i2l (rfl : Int32.toInt x6 = x6.toInt)) (xl_i2l (rfl : Int32.toInt x10 = x10.toInt))) ms_X11_in km_X11_139 rfl rfl ⟨Nat.le_of_ble_eq_true rfl, Nat.le_of_ble_eq_true rfl⟩ hK (fun _ => XPh.blind) (fun U hU hW => XPh.at hK hz hS hT hU hW) rfl hl.1 (Nat.le_of_ble_eq_true rfl) dX11_question_27 ⟨Nat.le_of_ble_eq_true rfl, Nat.le_of_ble_eq_true rfl⟩) hS ?_
    rintro _ _ locs ⟨x12, rfl, b13, t14⟩ hS
    have t14 : (x12.toInt = 1 ∧ x6.toInt ≤ p1.toInt ∧ p1.toInt ≤ x10.toInt) ∨ (x12.toInt = 0 ∧ (p1.toInt < x6.toInt ∨ x10.toInt < p1.toInt)) := t14
    refine xi_zeq (tgt := 43) hx hb (rfl : Int32.toInt x12 = x12.toInt) dX11_question_30 (by decide) (fun c15 => ?_) (fun c15 => ?_)
    · refine lv_ldc (v := (-2147483648)) hx hb S.2.2.2.1 (S.2.2.2.2 _ (List.mem_cons_of_mem _ kc_X11_57)) dX11_question_43 ?_
      exact x_ri hx hb hr hlk hQ (Nat.le_of_ble_eq_true rfl) (Nat.le_of_ble_eq_true rfl) hS dX11_question_45 (0) ⟨_, rfl⟩ hT.nil
    · refine lv_iload_n hx hb dX11_question_33 rfl (lv_at hl 3 rfl) ?_
      refine lv_i2l (v := p2.toInt64) hx hb dX11_question_34 rfl ?_
      refine lv_lconst (v := (0 : Int64)) hx hb dX11_question_35 (by decide) ?_
      refine lv_lconst (v := (1 : Int64)) hx hb dX11_question_36 (by decide) ?_
      refine x_clp (x_runS (As := [.long p2.toInt64, .long (0 : Int64), .long (1 : Int64)]) (rest := []) S (c_X11_in l E K F tl 0 z1 z2 z3 z4 z5 z6 z7 z8 z9 z10 z11 z12 z13 z14 z15 z16 z17 z18 z19 z20 ar0 ar1 ar2 ar3 ar4 ar5 ar6 ar7 ar8 ar9 ar10 H p2.toInt64 (0 : Int64) (1 : Int64) p2.toInt (0 : Int) (1 : Int) (xl_i2l (rfl : Int32.toInt p2 = p2.toInt)) (by decide) (by decide)) ms_X11_in km_X11_139 rfl rfl ⟨Nat.le_of_ble_eq_true rfl, Nat.le_of_ble_eq_true rfl⟩ hK (fun _ => XPh.blind) (fun U hU hW => XPh.at hK hz hS hT hU hW) rfl hl.1 (Nat.le_of_ble_eq_true rfl) dX11_question_37 ⟨Nat.le_of_ble_eq_true rfl, Nat.le_of_ble_eq_true rfl⟩) hS ?_
      rintro _ _ locs ⟨x16, rfl, b17, t18⟩ hS
      have t18 : (x16.toInt = 1 ∧ (0 : Int) ≤ p2.toInt ∧ p2.toInt ≤ (1 : Int)) ∨ (x16.toInt = 0 ∧ (p2.toInt < (0 : Int) ∨ (1 : Int) < p2.toInt)) := t18
      refine xi_zne (tgt := 46) hx hb (rfl : Int32.toInt x16 = x16.toInt) dX11_question_40 (by decide) (fun c19 => ?_) (fun c19 => ?_)
      · refine lv_iload_n hx hb dX11_question_46 rfl (lv_at hl 3 rfl) ?_
        refine xi_zne (tgt := 64) hx hb (rfl : Int32.toInt p2 = p2.toInt) dX11_question_47 (by decide) (fun c20 => ?_) (fun c20 => ?_)
        · refine lv_aload_n hx hb dX11_question_64 rfl (lv_at hl 0 rfl) ?_
          refine lv_iload_n hx hb dX11_question_65 rfl (lv_at hl 1 rfl) ?_
          refine lv_iload_n hx hb dX11_question_66 rfl (lv_at hl 2 rfl) ?_
          refine lv_aload_n hx hb dX11_question_67 rfl (lv_at hl 0 rfl) ?_
          refine gX11_1 S hK hT ha kf_X11_9 dX11_question_68 (fun hk21 => ?_)
          refine lv_iconst (v := 0) hx hb dX11_question_71 (by decide) ?_
          refine x_clp (x_runV (b := a) (As := [.int p0, .int p1, .ref (F a 1), .int 0]) (rest := []) S (c_X11_fails l E K F tl 0 z1 z2 z3 z4 z5 z6 z7 z8 z9 z10 z11 z12 z13 z14 z15 z16 z17 z18 z19 z20 ar0 ar1 ar2 ar3 ar4 ar5 ar6 ar7 ar8 ar9 ar10 H a p0 p1 (F a 1) 0 ha (XO.a hk21 (by decide)) hR (z_X11_question_4 p0.toInt x2.toInt (aI ar1 (10 * p0.toInt + (0 : Int))) (aI ar1 (10 * p0.toInt + (3 : Int))) t1 (xbz b3) c4 (v8).1 (v8).2.2.2.1 (v8).2.2.2.2 (xr p0) (xr x2)) (z_X11_question_5 p0.toInt x2.toInt (aI ar1 (10 * p0.toInt + (0 : Int))) (aI ar1 (10 * p0.toInt + (3 : Int))) t1 (xbz b3) c4 (v8).1 (v8).2.2.2.1 (v8).2.2.2.2 (xr p0) (xr x2)) (z_X11_question_6 p1.toInt x10.toInt x12.toInt x6.toInt (aF ar1 p0.toInt) (aL ar1 p0.toInt) t5 t9 t14 c15 (xr p1) (xr x10) (xr x12) (xr x6))) mv_X11_fails km_X11_221 rfl rfl ⟨Nat.le_of_ble_eq_true rfl, Nat.le_of_ble_eq_true rfl⟩ (rc_13 hK hT ha) hK (fun _ => XPh.blind) (fun U hU hW => XPh.at hK hz hS hT hU hW) rfl hl.1 (Nat.le_of_ble_eq_true rfl) dX11_question_72 ⟨Nat.le_of_ble_eq_true rfl, Nat.le_of_ble_eq_true rfl⟩) hS ?_
          rintro _ _ locs ⟨x22, rfl, b23⟩ hS
          refine xi_zeq (tgt := 82) hx hb (rfl : Int32.toInt x22 = x22.toInt) dX11_question_75 (by decide) (fun c24 => ?_) (fun c24 => ?_)
          · refine lv_iconst (v := 0) hx hb dX11_question_82 (by decide) ?_
            exact x_ri hx hb hr hlk hQ (Nat.le_of_ble_eq_true rfl) (Nat.le_of_ble_eq_true rfl) hS dX11_question_83 (0) ⟨_, rfl⟩ hT.nil
          · refine lv_iconst (v := 1) hx hb dX11_question_78 (by decide) ?_
            refine lv_goto (tgt := 83) hx hb dX11_question_79 (by decide) ?_
            exact x_ri hx hb hr hlk hQ (Nat.le_of_ble_eq_true rfl) (Nat.le_of_ble_eq_true rfl) hS dX11_question_83 (0) ⟨_, rfl⟩ hT.nil
        · refine lv_aload_n hx hb dX11_question_50 rfl (lv_at hl 0 rfl) ?_
          refine lv_iload_n hx hb dX11_question_51 rfl (lv_at hl 1 rfl) ?_
          refine lv_iload_n hx hb dX11_question_52 rfl (lv_at hl 2 rfl) ?_
          refine lv_aload_n hx hb dX11_question_53 rfl (lv_at hl 0 rfl) ?_
          refine gX11_1 S hK hT ha kf_X11_9 dX11_question_54 (fun hk25 => ?_)
          refine lv_iconst (v := 0) hx hb dX11_question_57 (by decide) ?_
          refine x_clp (x_runV (b := a) (As := [.int p0, .int p1, .ref (F a 1), .int 0]) (rest := []) S (c_X11_stateOf l E K F tl 0 z1 z2 z3 z4 z5 z6 z7 z8 z9 z10 z11 z12 z13 z14 z15 z16 z17 z18 z19 z20 ar0 ar1 ar2 ar3 ar4 ar5 ar6 ar7 ar8 ar9 ar10 H a p0 p1 (F a 1) 0 ha (XO.a hk25 (by decide)) hR (z_X11_question_7 p0.toInt x2.toInt (aI ar1 (10 * p0.toInt + (0 : Int))) (aI ar1 (10 * p0.toInt + (3 : Int))) t1 (xbz b3) c4 (v8).1 (v8).2.2.2.1 (v8).2.2.2.2 (xr p0) (xr x2)) (z_X11_question_8 p0.toInt x2.toInt (aI ar1 (10 * p0.toInt + (0 : Int))) (aI ar1 (10 * p0.toInt + (3 : Int))) t1 (xbz b3) c4 (v8).1 (v8).2.2.2.1 (v8).2.2.2.2 (xr p0) (xr x2)) (z_X11_question_9 p1.toInt x10.toInt x12.toInt x6.toInt (aF ar1 p0.toInt) (aL ar1 p0.toInt) t5 t9 t14 c15 (xr p1) (xr x10) (xr x12) (xr x6))) mv_X11_stateOf km_X11_189 rfl rfl ⟨Nat.le_of_ble_eq_true rfl, Nat.le_of_ble_eq_true rfl⟩ (rc_13 hK hT ha) hK (fun _ => XPh.blind) (fun U hU hW => XPh.at hK hz hS hT hU hW) rfl hl.1 (Nat.le_of_ble_eq_true rfl) dX11_question_58 ⟨Nat.le_of_ble_eq_true rfl, Nat.le_of_ble_eq_true rfl⟩) hS ?_
          rintro _ _ locs ⟨x26, rfl⟩ hS
          refine lv_goto (tgt := 83) hx hb dX11_question_61 (by decide) ?_
          exact x_ri hx hb hr hlk hQ (Nat.le_of_ble_eq_true rfl) (Nat.le_of_ble_eq_true rfl) hS dX11_question_83 (0) ⟨_, rfl⟩ hT.nil
      · refine lv_ldc (v := (-2147483648)) hx hb S.2.2.2.1 (S.2.2.2.2 _ (List.mem_cons_of_mem _ kc_X11_57)) dX11_question_43 ?_
        exact x_ri hx hb hr hlk hQ (Nat.le_of_ble_eq_true rfl) (Nat.le_of_ble_eq_true rfl) hS dX11_question_45 (0) ⟨_, rfl⟩ hT.nil

theorem z_X11_first_1 (a0 : Int) (h0 : (0 : Int) ≤ a0) (r0 : -2147483648 ≤ a0 ∧ a0 < 2147483648) : ¬ (2147483648 - a0 < ((0 : Nat) : Int)) := by omega
theorem z_X11_first_2 (a0 : Int) (a1 : Int) (a2 : Nat) (a3 : Nat) (h0 : 0 ≤ a0 ∧ a0 ≤ 2388 ∧ a0 ≤ ((a3 : Nat) : Int)) (h1 : (0 : Int) ≤ a1) (h2 : 2147483648 - a1 < ((a2 + 1 : Nat) : Int)) (h3 : a0 ≤ a1) (r0 : -2147483648 ≤ a0 ∧ a0 < 2147483648) (r1 : -2147483648 ≤ a1 ∧ a1 < 2147483648) : 0 ≤ a0 ∧ a0 ≤ 2388 ∧ a0 ≤ ((a3 : Nat) : Int) := by omega
theorem z_X11_first_3 (a0 : Int) (a1 : Int) (a2 : Int) (a3 : Nat) (a4 : Nat) (h0 : 0 ≤ a0 ∧ a0 ≤ 2388 ∧ a0 ≤ ((a4 : Nat) : Int)) (h1 : (0 : Int) ≤ a1) (h2 : 2147483648 - a1 < ((a3 + 1 : Nat) : Int)) (h3 : a0 ≤ a1) (h4 : a2 = -1 ∨ (0 ≤ a2 ∧ a2 < a0)) (h5 : a2 ≠ (-1 : Int)) (r0 : -2147483648 ≤ a0 ∧ a0 < 2147483648) (r1 : -2147483648 ≤ a1 ∧ a1 < 2147483648) (r2 : -2147483648 ≤ a2 ∧ a2 < 2147483648) : 0 ≤ a2 ∧ a2 < ((2400 : Nat) : Int) := by omega
theorem z_X11_first_4 (a0 : Int) (a1 : Int) (a2 : Int) (a3 : Nat) (a4 : Nat) (h0 : 0 ≤ a0 ∧ a0 ≤ 2388 ∧ a0 ≤ ((a4 : Nat) : Int)) (h1 : (0 : Int) ≤ a1) (h2 : 2147483648 - a1 < ((a3 + 1 : Nat) : Int)) (h3 : a0 ≤ a1) (h4 : a2 = -1 ∨ (0 ≤ a2 ∧ a2 < a0)) (h5 : a2 ≠ (-1 : Int)) (r0 : -2147483648 ≤ a0 ∧ a0 < 2147483648) (r1 : -2147483648 ≤ a1 ∧ a1 < 2147483648) (r2 : -2147483648 ≤ a2 ∧ a2 < 2147483648) : 0 ≤ a2 ∧ a2 < ((2400 : Nat) : Int) := by omega
theorem z_X11_first_5 (a0 : Int) (a1 : Int) (a2 : Int) (a3 : Nat) (a4 : Nat) (h0 : 0 ≤ a0 ∧ a0 ≤ 2388 ∧ a0 ≤ ((a4 : Nat) : Int)) (h1 : (0 : Int) ≤ a1) (h2 : 2147483648 - a1 < ((a3 + 1 : Nat) : Int)) (h3 : a0 ≤ a1) (h4 : a2 = -1 ∨ (0 ≤ a2 ∧ a2 < a0)) (h5 : a2 ≠ (-1 : Int)) (r0 : -2147483648 ≤ a0 ∧ a0 < 2147483648) (r1 : -2147483648 ≤ a1 ∧ a1 < 2147483648) (r2 : -2147483648 ≤ a2 ∧ a2 < 2147483648) : 0 ≤ a2 ∧ a2 < ((a4 : Nat) : Int) := by omega
theorem z_X11_first_6 (a0 : Int) (a1 : Int) (a2 : Int) (h0 : a0 = a2) (h1 : 0 ≤ a0 ∧ a0 ≤ 11 ∧ 0 ≤ a1) (r0 : -2147483648 ≤ a0 ∧ a0 < 2147483648) : 0 ≤ a0 ∧ a0 ≤ 11 := by omega
theorem z_X11_first_7 (a0 : Int) (a1 : Int) (a2 : Nat) (a3 : Nat) (h0 : 0 ≤ a0 ∧ a0 ≤ 2388 ∧ a0 ≤ ((a3 : Nat) : Int)) (h1 : (0 : Int) ≤ a1) (h2 : 2147483648 - a1 < ((a2 + 1 : Nat) : Int)) (h3 : ¬ (a0 ≤ a1)) (r0 : -2147483648 ≤ a0 ∧ a0 < 2147483648) (r1 : -2147483648 ≤ a1 ∧ a1 < 2147483648) : 0 ≤ a1 ∧ a1 < ((2400 : Nat) : Int) := by omega
theorem z_X11_first_8 (a0 : Int) (a1 : Int) (a2 : Nat) (a3 : Nat) (h0 : 0 ≤ a0 ∧ a0 ≤ 2388 ∧ a0 ≤ ((a3 : Nat) : Int)) (h1 : (0 : Int) ≤ a1) (h2 : 2147483648 - a1 < ((a2 + 1 : Nat) : Int)) (h3 : ¬ (a0 ≤ a1)) (r0 : -2147483648 ≤ a0 ∧ a0 < 2147483648) (r1 : -2147483648 ≤ a1 ∧ a1 < 2147483648) : 0 ≤ a1 ∧ a1 < ((a3 : Nat) : Int) := by omega
theorem z_X11_first_9 (a0 : Int) (a1 : Int) (a2 : Int) (h0 : a0 = a2) (h1 : 0 ≤ a0 ∧ a0 ≤ 11 ∧ 0 ≤ a1) (r0 : -2147483648 ≤ a0 ∧ a0 < 2147483648) : 0 ≤ a0 ∧ a0 ≤ 11 := by omega
theorem z_X11_first_10 (a0 : Int) (a1 : Int) (a2 : Nat) (a3 : Nat) (h0 : 0 ≤ a0 ∧ a0 ≤ 2388 ∧ a0 ≤ ((a3 : Nat) : Int)) (h1 : (0 : Int) ≤ a1) (h2 : 2147483648 - a1 < ((a2 + 1 : Nat) : Int)) (h3 : ¬ (a0 ≤ a1)) (r0 : -2147483648 ≤ a0 ∧ a0 < 2147483648) (r1 : -2147483648 ≤ a1 ∧ a1 < 2147483648) : 0 ≤ a1 ∧ a1 < ((2400 : Nat) : Int) := by omega
theorem z_X11_first_11 (a0 : Int) (a1 : Int) (a2 : Nat) (a3 : Nat) (h0 : 0 ≤ a0 ∧ a0 ≤ 2388 ∧ a0 ≤ ((a3 : Nat) : Int)) (h1 : (0 : Int) ≤ a1) (h2 : 2147483648 - a1 < ((a2 + 1 : Nat) : Int)) (h3 : ¬ (a0 ≤ a1)) (r0 : -2147483648 ≤ a0 ∧ a0 < 2147483648) (r1 : -2147483648 ≤ a1 ∧ a1 < 2147483648) : 0 ≤ a1 ∧ a1 < ((a3 : Nat) : Int) := by omega
theorem z_X11_first_12 (a0 : Int) (a1 : Int) (a2 : Int) (a3 : Int) (h0 : a0 = a3) (h1 : 0 ≤ a0 ∧ a0 ≤ 11 ∧ 0 ≤ a1) (h2 : -1 ≤ a1 ∧ a1 ≤ 5) (h3 : -1 ≤ a2 ∧ a2 ≤ 2) (h4 : a1 = 1 ∨ a1 = 3 ∨ a1 = 4 → 0 ≤ a2) (r0 : -2147483648 ≤ a0 ∧ a0 < 2147483648) : 0 ≤ a0 ∧ a0 ≤ 11 := by first | (clear h4; omega) | omega
theorem z_X11_first_13 (a0 : Int) (a1 : Int) (a2 : Int) (a3 : Int) (h0 : a0 = a3) (h1 : 0 ≤ a0 ∧ a0 ≤ 11 ∧ 0 ≤ a1) (h2 : -1 ≤ a1 ∧ a1 ≤ 5) (h3 : -1 ≤ a2 ∧ a2 ≤ 2) (h4 : a1 = 1 ∨ a1 = 3 ∨ a1 = 4 → 0 ≤ a2) (r0 : -2147483648 ≤ a0 ∧ a0 < 2147483648) : 0 ≤ a1 := by omega
theorem z_X11_first_14 (a0 : Int) (a1 : Int) (a2 : Int) (a3 : Int) (h0 : a0 = a2) (h1 : -99 ≤ a0 ∧ a0 ≤ 99 ∧ a1 ≤ a0 ∧ a0 ≤ a3) (r0 : -2147483648 ≤ a0 ∧ a0 < 2147483648) : a1 ≤ a0 ∧ a0 ≤ a3 := by omega
theorem z_X11_first_15 (a0 : Int) (a1 : Int) (a2 : Int) (a3 : Nat) (a4 : Nat) (h0 : 0 ≤ a0 ∧ a0 ≤ 2388 ∧ a0 ≤ ((a4 : Nat) : Int)) (h1 : (0 : Int) ≤ a1) (h2 : 2147483648 - a1 < ((a3 + 1 : Nat) : Int)) (h3 : ¬ (a0 ≤ a1)) (h4 : a2 = a1 + 1 ∨ a1 + 1 < -2147483648 ∨ 2147483648 ≤ a1 + 1) (r0 : -2147483648 ≤ a0 ∧ a0 < 2147483648) (r1 : -2147483648 ≤ a1 ∧ a1 < 2147483648) (r2 : -2147483648 ≤ a2 ∧ a2 < 2147483648) : (0 : Int) ≤ a2 := by omega
theorem z_X11_first_16 (a0 : Int) (a1 : Int) (a2 : Int) (a3 : Nat) (a4 : Nat) (h0 : 0 ≤ a0 ∧ a0 ≤ 2388 ∧ a0 ≤ ((a4 : Nat) : Int)) (h1 : (0 : Int) ≤ a1) (h2 : 2147483648 - a1 < ((a3 + 1 : Nat) : Int)) (h3 : ¬ (a0 ≤ a1)) (h4 : a2 = a1 + 1 ∨ a1 + 1 < -2147483648 ∨ 2147483648 ≤ a1 + 1) (r0 : -2147483648 ≤ a0 ∧ a0 < 2147483648) (r1 : -2147483648 ≤ a1 ∧ a1 < 2147483648) (r2 : -2147483648 ≤ a2 ∧ a2 < 2147483648) : 2147483648 - a2 < ((a3 : Nat) : Int) := by omega
abbrev rm_X11_first : Room := { frames := 5, cells := 0, slots := 0, locals := 125 }
set_option maxHeartbeats 4000000 in
set_option maxRecDepth 100000 in
theorem c_X11_first (l : Launch) (E : XE) (K : Nat → Nat) (F : Nat → Nat → Nat) (tl z0 z1 z2 z3 z4 z5 z6 z7 z8 z9 z10 z11 z12 z13 z14 z15 z16 z17 z18 z19 z20 : Int32) (ar0 ar1 ar2 ar3 ar4 ar5 ar6 ar7 ar8 ar9 ar10 : Nat → Int32) (a : Nat) (p0 : Int32) (ha : K a = 13) (hR : RV ar1) : Met l yX11_first (xw yX11_first cX11_first 4 (some .int)) rm_X11_first (va_Pc [.ref a, .int p0] (XP E K F (tl, [z0, z1, z2, z3, z4, z5, z6, z7, z8, z9, z10, z11, z12, z13, z14, z15, z16, z17, z18, z19, z20], [ar0, ar1, ar2, ar3, ar4, ar5, ar6, ar7, ar8, ar9, ar10]))) (XQ E (fun v (u : Int32 × Int32 × Int32 × (Nat → Int32) × (Nat → Int32) × (Nat → Int32)) => ∃ r : Int32, v = .int r) (fun u H => TW E K F (tl, [u.1, z1, z2, u.2.1, u.2.2.1, z5, z6, z7, z8, z9, z10, z11, z12, z13, z14, z15, z16, z17, z18, z19, z20], [ar0, ar1, u.2.2.2.1, u.2.2.2.2.1, u.2.2.2.2.2, ar5, ar6, ar7, ar8, ar9, ar10]) [] H)) 0 0 (xA E) := by
  refine x_enter (by decide) (Nat.le_of_ble_eq_true rfl) ?_
  intro p e s m args below meth c Q S hr hlk hnm hQ hP ls hl
  obtain ⟨hz, hK, hT⟩ := hP
  obtain ⟨hx, hb, -, -, -⟩ := id S
  obtain ⟨H, hT, hS, hgo⟩ : ∃ H : Heap, TW E K F (tl, [z0, z1, z2, z3, z4, z5, z6, z7, z8, z9, z10, z11, z12, z13, z14, z15, z16, z17, z18, z19, z20], [ar0, ar1, ar2, ar3, ar4, ar5, ar6, ar7, ar8, ar9, ar10]) [] H ∧ va_S (xA E) s.heap H [] ∧ H = s.heap := ⟨_, hT, va_S.rf, rfl⟩
  rw [← hgo]
  have hl : lv_has ls 4 [(0, .ref a), (1, .int p0)] := hl
  refine lv_aload_n hx hb dX11_first_0 rfl (lv_at hl 0 rfl) ?_
  refine lv_iconst (v := 0) hx hb dX11_first_1 (by decide) ?_
  refine pX11_0 (kq := []) (v := 0) S hK hT hS ha kf_X11_134 (Nat.le_of_ble_eq_true rfl) dX11_first_2 (fun _ h => by cases h) (fun H locs hT hS => ?_)
  have hT : TW E K F (tl, [0, z1, z2, z3, z4, z5, z6, z7, z8, z9, z10, z11, z12, z13, z14, z15, z16, z17, z18, z19, z20], [ar0, ar1, ar2, ar3, ar4, ar5, ar6, ar7, ar8, ar9, ar10]) [] H := hT
  refine lv_iload_n hx hb dX11_first_5 rfl (lv_at hl 1 rfl) ?_
  refine lv_i2l (v := p0.toInt64) hx hb dX11_first_6 rfl ?_
  refine lv_lconst (v := (0 : Int64)) hx hb dX11_first_7 (by decide) ?_
  refine lv_ldc2 (v := 3) hx hb S.2.2.2.1 (S.2.2.2.2 _ (List.mem_cons_of_mem _ kc_X11_387)) dX11_first_8 ?_
  refine x_clp (x_runS (As := [.long p0.toInt64, .long (0 : Int64), .long (3 : Int64)]) (rest := []) S (c_X11_in l E K F tl 0 z1 z2 z3 z4 z5 z6 z7 z8 z9 z10 z11 z12 z13 z14 z15 z16 z17 z18 z19 z20 ar0 ar1 ar2 ar3 ar4 ar5 ar6 ar7 ar8 ar9 ar10 H p0.toInt64 (0 : Int64) (3 : Int64) p0.toInt (0 : Int) (3 : Int) (xl_i2l (rfl : Int32.toInt p0 = p0.toInt)) (by decide) (by decide)) ms_X11_in km_X11_139 rfl rfl ⟨Nat.le_of_ble_eq_true rfl, Nat.le_of_ble_eq_true rfl⟩ hK (fun _ => XPh.blind) (fun U hU hW => XPh.at hK hz hS hT hU hW) rfl hl.1 (Nat.le_of_ble_eq_true rfl) dX11_first_11 ⟨Nat.le_of_ble_eq_true rfl, Nat.le_of_ble_eq_true rfl⟩) hS ?_
  rintro _ _ locs ⟨x1, rfl, b2, t3⟩ hS
  have t3 : (x1.toInt = 1 ∧ (0 : Int) ≤ p0.toInt ∧ p0.toInt ≤ (3 : Int)) ∨ (x1.toInt = 0 ∧ (p0.toInt < (0 : Int) ∨ (3 : Int) < p0.toInt)) := t3
  refine xi_zne (tgt := 20) hx hb (rfl : Int32.toInt x1 = x1.toInt) dX11_first_14 (by decide) (fun c4 => ?_) (fun c4 => ?_)
  · refine lv_aload_n hx hb dX11_first_20 rfl (lv_at hl 0 rfl) ?_
    refine gX11_6 S hK hT ha kf_X11_206 dX11_first_21 (v := z1) rfl ?_
    refine xi_zne (tgt := 29) hx hb (rfl : Int32.toInt z1 = z1.toInt) dX11_first_24 (by decide) (fun c5 => ?_) (fun c5 => ?_)
    · refine lv_aload_n hx hb dX11_first_29 rfl (lv_at hl 0 rfl) ?_
      refine x_cv0 (x_runV (b := a) (As := []) (rest := []) S (c_X11_findQueue l E K F tl 0 z1 z2 z3 z4 z5 z6 z7 z8 z9 z10 z11 z12 z13 z14 z15 z16 z17 z18 z19 z20 ar0 ar1 ar2 ar3 ar4 ar5 ar6 ar7 ar8 ar9 ar10 a ha hR) mv_X11_findQueue km_X11_218 rfl rfl ⟨Nat.le_of_ble_eq_true rfl, Nat.le_of_ble_eq_true rfl⟩ (rc_13 hK hT ha) hK (fun _ => XP.blind) (fun U hU hW => XP.at hK hz hS hT hU hW) rfl hl.1 (Nat.le_of_ble_eq_true rfl) dX11_first_30 ⟨Nat.le_of_ble_eq_true rfl, Nat.le_of_ble_eq_true rfl⟩) hS ?_
      rintro ⟨u6, u7, f8, f9, f10⟩ H locs t11 hT hS
      have hT : TW E K F (tl, [0, z1, z2, u6, u7, z5, z6, z7, z8, z9, z10, z11, z12, z13, z14, z15, z16, z17, z18, z19, z20], [ar0, ar1, f8, f9, f10, ar5, ar6, ar7, ar8, ar9, ar10]) [] H := hT
      have t11 : 0 ≤ u7.toInt ∧ u7.toInt ≤ 2388 ∧ u7.toInt ≤ (((fV ar1 f9 f10) : Nat) : Int) := t11
      refine lv_iconst (v := 0) hx hb dX11_first_33 (by decide) ?_
      refine lv_istore_n (lv' := [(2, .int 0), (0, .ref a), (1, .int p0)]) hx hb dX11_first_34 rfl hl (by decide) rfl (fun ls hl => ?_)
      refine lv_iconst (v := 0) hx hb dX11_first_35 (by decide) ?_
      refine lv_istore_n (lv' := [(3, .int 0), (2, .int 0), (0, .ref a), (1, .int p0)]) hx hb dX11_first_36 rfl hl (by decide) rfl (fun ls hl => ?_)
      have L37 : ∀ (N16 : Nat) (x14 : Int32) (x15 : Int32) (H : Heap) (locs : List Loc) (ls : Array Slot), (0 : Int) ≤ x15.toInt → 2147483648 - x15.toInt < ((N16 : Nat) : Int) → TW E K F (tl, [0, z1, z2, u6, u7, z5, z6, z7, z8, z9, z10, z11, z12, z13, z14, z15, z16, z17, z18, z19, z20], [ar0, ar1, f8, f9, f10, ar5, ar6, ar7, ar8, ar9, ar10]) [] H → va_S (xA E) s.heap H locs → lv_has ls 4 [(0, .ref a), (1, .int p0), (2, .int x14), (3, .int x15)] → W p l e rm_X11_first s m args below meth c H locs 0 0 Q (F0 m 37 ls []) := by
        intro N16
        induction N16 with
        | zero =>
          intro x14 x15 H locs ls hf17 hm18
          exact absurd hm18 (z_X11_first_1 x15.toInt hf17 (xr x15))
        | succ N16 ih19 =>
          intro x14 x15 H locs ls hf17 hm18 hT hS hl
          refine lv_iload_n hx hb dX11_first_37 rfl (lv_at hl 3 rfl) ?_
          refine lv_aload_n hx hb dX11_first_38 rfl (lv_at hl 0 rfl) ?_
          refine gX11_19 S hK hT ha kf_X11_203 dX11_first_39 (v := u7) rfl ?_
          refine xi_cge (tgt := 83) hx hb (rfl : Int32.toInt x15 = x15.toInt) (rfl : Int32.toInt u7 = u7.toInt) dX11_first_42 (by decide) (fun c20 => ?_) (fun c20 => ?_)
          · refine lv_aload_n hx hb dX11_first_83 rfl (lv_at hl 0 rfl) ?_
            refine x_clp (x_runV (b := a) (As := []) (rest := []) S (c_X11_firstFailing l E K F tl 0 z1 z2 u6 u7 z5 z6 z7 z8 z9 z10 z11 z12 z13 z14 z15 z16 z17 z18 z19 z20 ar0 ar1 f8 f9 f10 ar5 ar6 ar7 ar8 ar9 ar10 H a ha hR (z_X11_first_2 u7.toInt x15.toInt N16 (fV ar1 f9 f10) t11 hf17 hm18 c20 (xr u7) (xr x15))) mv_X11_firstFailing km_X11_313 rfl rfl ⟨Nat.le_of_ble_eq_true rfl, Nat.le_of_ble_eq_true rfl⟩ (rc_13 hK hT ha) hK (fun _ => XPh.blind) (fun U hU hW => XPh.at hK hz hS hT hU hW) rfl hl.1 (Nat.le_of_ble_eq_true rfl) dX11_first_84 ⟨Nat.le_of_ble_eq_true rfl, Nat.le_of_ble_eq_true rfl⟩) hS ?_
            rintro _ _ locs ⟨x22, rfl, t21⟩ hS
            have t21 : x22.toInt = -1 ∨ (0 ≤ x22.toInt ∧ x22.toInt < u7.toInt) := t21
            refine lv_istore_n (lv' := [(3, .int x22), (0, .ref a), (1, .int p0), (2, .int x14)]) hx hb dX11_first_87 rfl hl (by decide) rfl (fun ls hl => ?_)
            refine lv_iload_n hx hb dX11_first_88 rfl (lv_at hl 2 rfl) ?_
            refine lv_iconst (v := 3) hx hb dX11_first_89 (by decide) ?_
            refine xi_cne (tgt := 97) hx hb (rfl : Int32.toInt p0 = p0.toInt) ((by decide) : Int32.toInt 3 = (3 : Int)) dX11_first_90 (by decide) (fun c24 => ?_) (fun c24 => ?_)
            · refine lv_iload_n hx hb dX11_first_97 rfl (lv_at hl 0 rfl) ?_
              refine lv_iconst (v := (-1)) hx hb dX11_first_98 (by decide) ?_
              refine xi_cne (tgt := 106) hx hb (rfl : Int32.toInt x22 = x22.toInt) ((by decide) : Int32.toInt (-1) = (-1 : Int)) dX11_first_99 (by decide) (fun c25 => ?_) (fun c25 => ?_)
              · refine lv_iload_n hx hb dX11_first_106 rfl (lv_at hl 2 rfl) ?_
                refine xi_zne (tgt := 119) hx hb (rfl : Int32.toInt p0 = p0.toInt) dX11_first_107 (by decide) (fun c26 => ?_) (fun c26 => ?_)
                · refine lv_iload_n hx hb dX11_first_119 rfl (lv_at hl 2 rfl) ?_
                  refine lv_iconst (v := 1) hx hb dX11_first_120 (by decide) ?_
                  refine xi_cne (tgt := 133) hx hb (rfl : Int32.toInt p0 = p0.toInt) ((by decide) : Int32.toInt 1 = (1 : Int)) dX11_first_121 (by decide) (fun c27 => ?_) (fun c27 => ?_)
                  · refine lv_iload_n hx hb dX11_first_133 rfl (lv_at hl 0 rfl) ?_
                    exact x_ri hx hb hr hlk hQ (Nat.le_of_ble_eq_true rfl) (Nat.le_of_ble_eq_true rfl) hS dX11_first_134 (0, u6, u7, f8, f9, f10) ⟨_, rfl⟩ hT.nil
                  · refine lv_aload_n hx hb dX11_first_124 rfl (lv_at hl 1 rfl) ?_
                    refine gX11_18 S hK hT ha kf_X11_54 dX11_first_125 (fun hk28 => ?_)
                    refine lv_iload_n hx hb dX11_first_128 rfl (lv_at hl 0 rfl) ?_
                    refine tld_0 S hK hT hk28 (at_44 (f := f10) rfl) (by decide) (z_X11_first_3 u7.toInt x15.toInt x22.toInt N16 (fV ar1 f9 f10) t11 hf17 hm18 c20 t21 c25 (xr u7) (xr x15) (xr x22)) dX11_first_129 (fun x29 w30 o31 => ?_)
                    refine lv_goto (tgt := 134) hx hb dX11_first_130 (by decide) ?_
                    exact x_ri hx hb hr hlk hQ (Nat.le_of_ble_eq_true rfl) (Nat.le_of_ble_eq_true rfl) hS dX11_first_134 (0, u6, u7, f8, f9, f10) ⟨_, rfl⟩ hT.nil
                · refine lv_aload_n hx hb dX11_first_110 rfl (lv_at hl 1 rfl) ?_
                  refine gX11_17 S hK hT ha kf_X11_51 dX11_first_111 (fun hk33 => ?_)
                  refine lv_iload_n hx hb dX11_first_114 rfl (lv_at hl 0 rfl) ?_
                  refine tld_0 S hK hT hk33 (at_43 (f := f9) rfl) (by decide) (z_X11_first_4 u7.toInt x15.toInt x22.toInt N16 (fV ar1 f9 f10) t11 hf17 hm18 c20 t21 c25 (xr u7) (xr x15) (xr x22)) dX11_first_115 (fun x34 w35 o36 => ?_)
                  have v38 : 0 ≤ x34.toInt ∧ x34.toInt ≤ 11 ∧ 0 ≤ (aI ar1 (10 * x34.toInt + (0 : Int))) := fV_rule (f4 := f10) w35 (z_X11_first_5 u7.toInt x15.toInt x22.toInt N16 (fV ar1 f9 f10) t11 hf17 hm18 c20 t21 c25 (xr u7) (xr x15) (xr x22))
                  have v39 : (-1 ≤ (aI ar1 (10 * x34.toInt + (0 : Int))) ∧ (aI ar1 (10 * x34.toInt + (0 : Int))) ≤ 5) ∧ (0 ≤ (aI ar1 (10 * x34.toInt + (1 : Int))) ∧ (aI ar1 (10 * x34.toInt + (1 : Int))) ≤ 2) ∧ (0 ≤ (aI ar1 (10 * x34.toInt + (2 : Int))) ∧ (aI ar1 (10 * x34.toInt + (2 : Int))) ≤ 2) ∧ (-1 ≤ (aI ar1 (10 * x34.toInt + (3 : Int))) ∧ (aI ar1 (10 * x34.toInt + (3 : Int))) ≤ 2) ∧ ((aI ar1 (10 * x34.toInt + (0 : Int))) = 1 ∨ (aI ar1 (10 * x34.toInt + (0 : Int))) = 3 ∨ (aI ar1 (10 * x34.toInt + (0 : Int))) = 4 → 0 ≤ (aI ar1 (10 * x34.toInt + (3 : Int)))) := RV.row hR (z_X11_first_6 x34.toInt (aI ar1 (10 * x34.toInt + (0 : Int))) (aI f9 x22.toInt) w35 v38 (xr x34))
                  refine lv_goto (tgt := 134) hx hb dX11_first_116 (by decide) ?_
                  exact x_ri hx hb hr hlk hQ (Nat.le_of_ble_eq_true rfl) (Nat.le_of_ble_eq_true rfl) hS dX11_first_134 (0, u6, u7, f8, f9, f10) ⟨_, rfl⟩ hT.nil
              · refine lv_iconst (v := (-1)) hx hb dX11_first_102 (by decide) ?_
                refine lv_goto (tgt := 134) hx hb dX11_first_103 (by decide) ?_
                exact x_ri hx hb hr hlk hQ (Nat.le_of_ble_eq_true rfl) (Nat.le_of_ble_eq_true rfl) hS dX11_first_134 (0, u6, u7, f8, f9, f10) ⟨_, rfl⟩ hT.nil
            · refine lv_iload_n hx hb dX11_first_93 rfl (lv_at hl 3 rfl) ?_
              refine lv_goto (tgt := 134) hx hb dX11_first_94 (by decide) ?_
              exact x_ri hx hb hr hlk hQ (Nat.le_of_ble_eq_true rfl) (Nat.le_of_ble_eq_true rfl) hS dX11_first_134 (0, u6, u7, f8, f9, f10) ⟨_, rfl⟩ hT.nil
          · refine lv_iload_n hx hb dX11_first_45 rfl (lv_at hl 2 rfl) ?_
            refine lv_aload_n hx hb dX11_first_46 rfl (lv_at hl 0 rfl) ?_
            refine lv_aload_n hx hb dX11_first_47 rfl (lv_at hl 0 rfl) ?_
            refine gX11_17 S hK hT ha kf_X11_51 dX11_first_48 (fun hk40 => ?_)
            refine lv_iload_n hx hb dX11_first_51 rfl (lv_at hl 3 rfl) ?_
            refine tld_0 S hK hT hk40 (at_43 (f := f9) rfl) (by decide) (z_X11_first_7 u7.toInt x15.toInt N16 (fV ar1 f9 f10) t11 hf17 hm18 c20 (xr u7) (xr x15)) dX11_first_52 (fun x41 w42 o43 => ?_)
            have v45 : 0 ≤ x41.toInt ∧ x41.toInt ≤ 11 ∧ 0 ≤ (aI ar1 (10 * x41.toInt + (0 : Int))) := fV_rule (f4 := f10) w42 (z_X11_first_8 u7.toInt x15.toInt N16 (fV ar1 f9 f10) t11 hf17 hm18 c20 (xr u7) (xr x15))
            have v46 : (-1 ≤ (aI ar1 (10 * x41.toInt + (0 : Int))) ∧ (aI ar1 (10 * x41.toInt + (0 : Int))) ≤ 5) ∧ (0 ≤ (aI ar1 (10 * x41.toInt + (1 : Int))) ∧ (aI ar1 (10 * x41.toInt + (1 : Int))) ≤ 2) ∧ (0 ≤ (aI ar1 (10 * x41.toInt + (2 : Int))) ∧ (aI ar1 (10 * x41.toInt + (2 : Int))) ≤ 2) ∧ (-1 ≤ (aI ar1 (10 * x41.toInt + (3 : Int))) ∧ (aI ar1 (10 * x41.toInt + (3 : Int))) ≤ 2) ∧ ((aI ar1 (10 * x41.toInt + (0 : Int))) = 1 ∨ (aI ar1 (10 * x41.toInt + (0 : Int))) = 3 ∨ (aI ar1 (10 * x41.toInt + (0 : Int))) = 4 → 0 ≤ (aI ar1 (10 * x41.toInt + (3 : Int)))) := RV.row hR (z_X11_first_9 x41.toInt (aI ar1 (10 * x41.toInt + (0 : Int))) (aI f9 x15.toInt) w42 v45 (xr x41))
            refine lv_aload_n hx hb dX11_first_53 rfl (lv_at hl 0 rfl) ?_
            refine gX11_18 S hK hT ha kf_X11_54 dX11_first_54 (fun hk47 => ?_)
            refine lv_iload_n hx hb dX11_first_57 rfl (lv_at hl 3 rfl) ?_
            refine tld_0 S hK hT hk47 (at_44 (f := f10) rfl) (by decide) (z_X11_first_10 u7.toInt x15.toInt N16 (fV ar1 f9 f10) t11 hf17 hm18 c20 (xr u7) (xr x15)) dX11_first_58 (fun x48 w49 o50 => ?_)
            have v52 : -99 ≤ x48.toInt ∧ x48.toInt ≤ 99 ∧ (aF ar1 x41.toInt) ≤ x48.toInt ∧ x48.toInt ≤ (aL ar1 x41.toInt) := fV_sub w42 w49 (z_X11_first_11 u7.toInt x15.toInt N16 (fV ar1 f9 f10) t11 hf17 hm18 c20 (xr u7) (xr x15))
            refine lv_aload_n hx hb dX11_first_59 rfl (lv_at hl 0 rfl) ?_
            refine gX11_1 S hK hT ha kf_X11_9 dX11_first_60 (fun hk53 => ?_)
            refine lv_iconst (v := 0) hx hb dX11_first_63 (by decide) ?_
            refine x_clp (x_runV (b := a) (As := [.int x41, .int x48, .ref (F a 1), .int 0]) (rest := [.int x14]) S (c_X11_fails l E K F tl 0 z1 z2 u6 u7 z5 z6 z7 z8 z9 z10 z11 z12 z13 z14 z15 z16 z17 z18 z19 z20 ar0 ar1 f8 f9 f10 ar5 ar6 ar7 ar8 ar9 ar10 H a x41 x48 (F a 1) 0 ha (XO.a hk53 (by decide)) hR (z_X11_first_12 x41.toInt (aI ar1 (10 * x41.toInt + (0 : Int))) (aI ar1 (10 * x41.toInt + (3 : Int))) (aI f9 x15.toInt) w42 v45 (v46).1 (v46).2.2.2.1 (v46).2.2.2.2 (xr x41)) (z_X11_first_13 x41.toInt (aI ar1 (10 * x41.toInt + (0 : Int))) (aI ar1 (10 * x41.toInt + (3 : Int))) (aI f9 x15.toInt) w42 v45 (v46).1 (v46).2.2.2.1 (v46).2.2.2.2 (xr x41)) (z_X11_first_14 x48.toInt (aF ar1 x41.toInt) (aI f10 x15.toInt) (aL ar1 x41.toInt) w49 v52 (xr x48))) mv_X11_fails km_X11_221 rfl rfl ⟨Nat.le_of_ble_eq_true rfl, Nat.le_of_ble_eq_true rfl⟩ (rc_13 hK hT ha) hK (fun _ => XPh.blind) (fun U hU hW => XPh.at hK hz hS hT hU hW) rfl hl.1 (Nat.le_of_ble_eq_true rfl) dX11_first_64 ⟨Nat.le_of_ble_eq_true rfl, Nat.le_of_ble_eq_true rfl⟩) hS ?_
            rintro _ _ locs ⟨x54, rfl, b55⟩ hS
            have J75 : ∀ (x56 : Int32) (H : Heap) (locs : List Loc) (ls : Array Slot), TW E K F (tl, [0, z1, z2, u6, u7, z5, z6, z7, z8, z9, z10, z11, z12, z13, z14, z15, z16, z17, z18, z19, z20], [ar0, ar1, f8, f9, f10, ar5, ar6, ar7, ar8, ar9, ar10]) [] H → va_S (xA E) s.heap H locs → lv_has ls 4 [(0, .ref a), (1, .int p0), (3, .int x15)] → W p l e rm_X11_first s m args below meth c H locs 0 0 Q (F0 m 75 ls [.int x56, .int x14]) := by
              intro x56 H locs ls hT hS hl
              refine xi_iadd hx hb (rfl : Int32.toInt x14 = x14.toInt) (rfl : Int32.toInt x56 = x56.toInt) dX11_first_75 (fun x57 t58 => ?_)
              refine lv_istore_n (lv' := [(2, .int x57), (0, .ref a), (1, .int p0), (3, .int x15)]) hx hb dX11_first_76 rfl hl (by decide) rfl (fun ls hl => ?_)
              refine xi_iinc (n := 1) (lv' := fun z9 => [(3, .int z9), (2, .int x57), (0, .ref a), (1, .int p0)]) (k := 3) hx hb (rfl : Int32.toInt x15 = x15.toInt) (by decide) dX11_first_77 hl rfl (by decide) (fun _ => rfl) (fun x59 ls t60 hl => ?_)
              have hl : lv_has ls 4 [(3, .int x59), (2, .int x57), (0, .ref a), (1, .int p0)] := hl
              refine lv_goto (tgt := 37) hx hb dX11_first_80 (by decide) ?_
              exact ih19 x57 x59 _ _ _ (z_X11_first_15 u7.toInt x15.toInt x59.toInt N16 (fV ar1 f9 f10) t11 hf17 hm18 c20 t60 (xr u7) (xr x15) (xr x59)) (z_X11_first_16 u7.toInt x15.toInt x59.toInt N16 (fV ar1 f9 f10) t11 hf17 hm18 c20 t60 (xr u7) (xr x15) (xr x59)) hT.nil hS (lv_sub hl [2, 3, 1, 0] rfl)
            refine xi_zeq (tgt := 74) hx hb (rfl : Int32.toInt x54 = x54.toInt) dX11_first_67 (by decide) (fun c61 => ?_) (fun c61 => ?_)
            · refine lv_iconst (v := 0) hx hb dX11_first_74 (by decide) ?_
              exact J75 0 _ _ _ hT.nil hS (lv_sub hl [0, 1, 3] rfl)
            · refine lv_iconst (v := 1) hx hb dX11_first_70 (by decide) ?_
              refine lv_goto (tgt := 75) hx hb dX11_first_71 (by decide) ?_
              exact J75 1 _ _ _ hT.nil hS (lv_sub hl [0, 1, 3] rfl)
      exact L37 4294967297 0 0 _ _ _ (by decide) (by decide) hT.nil hS (lv_sub hl [2, 3, 1, 0] rfl)
    · refine lv_iconst (v := (-1)) hx hb dX11_first_27 (by decide) ?_
      exact x_ri hx hb hr hlk hQ (Nat.le_of_ble_eq_true rfl) (Nat.le_of_ble_eq_true rfl) hS dX11_first_28 (0, z3, z4, ar2, ar3, ar4) ⟨_, rfl⟩ hT.nil
  · refine lv_ldc (v := (-2147483648)) hx hb S.2.2.2.1 (S.2.2.2.2 _ (List.mem_cons_of_mem _ kc_X11_57)) dX11_first_17 ?_
    exact x_ri hx hb hr hlk hQ (Nat.le_of_ble_eq_true rfl) (Nat.le_of_ble_eq_true rfl) hS dX11_first_19 (0, z3, z4, ar2, ar3, ar4) ⟨_, rfl⟩ hT.nil
