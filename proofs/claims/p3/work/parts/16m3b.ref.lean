theorem z_X11_moves_1 (a0 : Int) (h0 : (0 : Int) ≤ a0) (r0 : -2147483648 ≤ a0 ∧ a0 < 2147483648) : ¬ (2147483648 - a0 < ((0 : Nat) : Int)) := by omega
theorem z_X11_moves_2 (a0 : Int) (a1 : Int) (a2 : Int) (a3 : Nat) (a4 : Int) (h0 : (0 : Int) ≤ a0) (h1 : 2147483648 - a0 < ((a3 + 1 : Nat) : Int)) (h2 : ¬ ((12 : Int) ≤ a0)) (h3 : a2 = 0 ∨ (a2 = 1 ∧ 0 ≤ a0 ∧ a0 ≤ 11 ∧ 0 ≤ a4)) (h4 : a2 = 0 ∨ a2 = 1) (h5 : a1 = a0 + 1 ∨ a0 + 1 < -2147483648 ∨ 2147483648 ≤ a0 + 1) (r0 : -2147483648 ≤ a0 ∧ a0 < 2147483648) (r1 : -2147483648 ≤ a1 ∧ a1 < 2147483648) (r2 : -2147483648 ≤ a2 ∧ a2 < 2147483648) : (0 : Int) ≤ a1 := by first | (clear h3 h4; omega) | (clear h4; omega) | omega
theorem z_X11_moves_3 (a0 : Int) (a1 : Int) (a2 : Int) (a3 : Nat) (a4 : Int) (h0 : (0 : Int) ≤ a0) (h1 : 2147483648 - a0 < ((a3 + 1 : Nat) : Int)) (h2 : ¬ ((12 : Int) ≤ a0)) (h3 : a2 = 0 ∨ (a2 = 1 ∧ 0 ≤ a0 ∧ a0 ≤ 11 ∧ 0 ≤ a4)) (h4 : a2 = 0 ∨ a2 = 1) (h5 : a1 = a0 + 1 ∨ a0 + 1 < -2147483648 ∨ 2147483648 ≤ a0 + 1) (r0 : -2147483648 ≤ a0 ∧ a0 < 2147483648) (r1 : -2147483648 ≤ a1 ∧ a1 < 2147483648) (r2 : -2147483648 ≤ a2 ∧ a2 < 2147483648) : 2147483648 - a1 < ((a3 : Nat) : Int) := by first | (clear h3 h4; omega) | (clear h4; omega) | omega
theorem z_X11_moves_4 (a0 : Int) (a1 : Int) (a2 : Nat) (a3 : Int) (h0 : (0 : Int) ≤ a0) (h1 : 2147483648 - a0 < ((a2 + 1 : Nat) : Int)) (h2 : ¬ ((12 : Int) ≤ a0)) (h3 : a1 = 0 ∨ (a1 = 1 ∧ 0 ≤ a0 ∧ a0 ≤ 11 ∧ 0 ≤ a3)) (h4 : a1 = 0 ∨ a1 = 1) (h5 : ¬ (a1 = 0)) (r0 : -2147483648 ≤ a0 ∧ a0 < 2147483648) (r1 : -2147483648 ≤ a1 ∧ a1 < 2147483648) : 0 ≤ a0 ∧ a0 ≤ 11 := by first | (clear h4 h5; omega) | omega
theorem z_X11_moves_5 (a0 : Int) (a1 : Int) (a2 : Nat) (a3 : Int) (h0 : (0 : Int) ≤ a0) (h1 : 2147483648 - a0 < ((a2 + 1 : Nat) : Int)) (h2 : ¬ ((12 : Int) ≤ a0)) (h3 : a1 = 0 ∨ (a1 = 1 ∧ 0 ≤ a0 ∧ a0 ≤ 11 ∧ 0 ≤ a3)) (h4 : a1 = 0 ∨ a1 = 1) (h5 : ¬ (a1 = 0)) (r0 : -2147483648 ≤ a0 ∧ a0 < 2147483648) (r1 : -2147483648 ≤ a1 ∧ a1 < 2147483648) : 0 ≤ a0 ∧ a0 ≤ 11 := by first | (clear h4 h5; omega) | omega
theorem z_X11_moves_6 (a0 : Int) (a1 : Int) (a2 : Nat) (a3 : Int) (a4 : Int) (h0 : (0 : Int) ≤ a0) (h1 : 2147483648 - a0 < ((a2 + 1 : Nat) : Int)) (h2 : ¬ ((12 : Int) ≤ a0)) (h3 : a1 = 0 ∨ (a1 = 1 ∧ 0 ≤ a0 ∧ a0 ≤ 11 ∧ 0 ≤ a3)) (h4 : a1 = 0 ∨ a1 = 1) (h5 : ¬ (a1 = 0)) (h6 : -1 ≤ a3 ∧ a3 ≤ 5) (h7 : -1 ≤ a4 ∧ a4 ≤ 2) (h8 : a3 = 1 ∨ a3 = 3 ∨ a3 = 4 → 0 ≤ a4) (r0 : -2147483648 ≤ a0 ∧ a0 < 2147483648) (r1 : -2147483648 ≤ a1 ∧ a1 < 2147483648) : 0 ≤ a0 ∧ a0 ≤ 11 := by first | (clear h4 h5 h8; omega) | omega
theorem z_X11_moves_7 (a0 : Int) (a1 : Int) (a2 : Int) (a3 : Int) (h0 : a2 ≤ a1 ∧ a1 ≤ a3 + 1) (h1 : a0 = a2 ∧ -99 ≤ a2 ∧ a2 ≤ 0 ∧ 29 ≤ a3 ∧ a3 ≤ 99 ∧ a3 - a2 ≤ 198) (r0 : -2147483648 ≤ a0 ∧ a0 < 2147483648) (r1 : -2147483648 ≤ a1 ∧ a1 < 2147483648) : ¬ (2147483648 - a1 < ((0 : Nat) : Int)) := by omega
theorem z_X11_moves_8 (a0 : Int) (a1 : Int) (a2 : Nat) (a3 : Int) (a4 : Int) (h0 : (0 : Int) ≤ a0) (h1 : 2147483648 - a0 < ((a2 + 1 : Nat) : Int)) (h2 : ¬ ((12 : Int) ≤ a0)) (h3 : a1 = 0 ∨ (a1 = 1 ∧ 0 ≤ a0 ∧ a0 ≤ 11 ∧ 0 ≤ a3)) (h4 : a1 = 0 ∨ a1 = 1) (h5 : ¬ (a1 = 0)) (h6 : -1 ≤ a3 ∧ a3 ≤ 5) (h7 : -1 ≤ a4 ∧ a4 ≤ 2) (h8 : a3 = 1 ∨ a3 = 3 ∨ a3 = 4 → 0 ≤ a4) (r0 : -2147483648 ≤ a0 ∧ a0 < 2147483648) (r1 : -2147483648 ≤ a1 ∧ a1 < 2147483648) : 0 ≤ a0 ∧ a0 ≤ 11 := by first | (clear h4 h5 h8; omega) | omega
theorem z_X11_moves_9 (a0 : Int) (a1 : Int) (a2 : Int) (a3 : Int) (a4 : Int) (a5 : Int) (a6 : Nat) (a7 : Nat) (a8 : Int) (a9 : Int) (a10 : Int) (a11 : Int) (h0 : (0 : Int) ≤ a0) (h1 : 2147483648 - a0 < ((a7 + 1 : Nat) : Int)) (h2 : ¬ ((12 : Int) ≤ a0)) (h3 : a5 = 0 ∨ (a5 = 1 ∧ 0 ≤ a0 ∧ a0 ≤ 11 ∧ 0 ≤ a9)) (h4 : a5 = 0 ∨ a5 = 1) (h5 : ¬ (a5 = 0)) (h6 : -1 ≤ a9 ∧ a9 ≤ 5) (h7 : -1 ≤ a10 ∧ a10 ≤ 2) (h8 : a9 = 1 ∨ a9 = 3 ∨ a9 = 4 → 0 ≤ a10) (h9 : a1 = a8 ∧ -99 ≤ a8 ∧ a8 ≤ 0 ∧ 29 ≤ a11 ∧ a11 ≤ 99 ∧ a11 - a8 ≤ 198) (h10 : a8 ≤ a2 ∧ a2 ≤ a11 + 1) (h11 : 2147483648 - a2 < ((a6 + 1 : Nat) : Int)) (h12 : a3 = a11 ∧ -99 ≤ a8 ∧ a8 ≤ 0 ∧ 29 ≤ a11 ∧ a11 ≤ 99 ∧ a11 - a8 ≤ 198) (h13 : ¬ (a3 < a2)) (h14 : 0 ≤ a0 ∧ a0 ≤ 11 ∧ -99 ≤ a2 ∧ a2 ≤ 99 → a4 = 199 * a0 + a2 + 99) (r0 : -2147483648 ≤ a0 ∧ a0 < 2147483648) (r1 : -2147483648 ≤ a1 ∧ a1 < 2147483648) (r2 : -2147483648 ≤ a2 ∧ a2 < 2147483648) (r3 : -2147483648 ≤ a3 ∧ a3 < 2147483648) (r4 : -2147483648 ≤ a4 ∧ a4 < 2147483648) (r5 : -2147483648 ≤ a5 ∧ a5 < 2147483648) : 0 ≤ a4 ∧ a4 < ((2388 : Nat) : Int) := by first | (clear h3 h4 h5 h8; omega) | (clear h4 h5 h8; omega) | omega
theorem z_X11_moves_10 (a0 : Int) (a1 : Int) (a2 : Int) (a3 : Int) (a4 : Int) (a5 : Int) (a6 : Nat) (a7 : Nat) (a8 : Int) (a9 : Int) (a10 : Int) (a11 : Int) (h0 : (0 : Int) ≤ a0) (h1 : 2147483648 - a0 < ((a7 + 1 : Nat) : Int)) (h2 : ¬ ((12 : Int) ≤ a0)) (h3 : a5 = 0 ∨ (a5 = 1 ∧ 0 ≤ a0 ∧ a0 ≤ 11 ∧ 0 ≤ a9)) (h4 : a5 = 0 ∨ a5 = 1) (h5 : ¬ (a5 = 0)) (h6 : -1 ≤ a9 ∧ a9 ≤ 5) (h7 : -1 ≤ a10 ∧ a10 ≤ 2) (h8 : a9 = 1 ∨ a9 = 3 ∨ a9 = 4 → 0 ≤ a10) (h9 : a1 = a8 ∧ -99 ≤ a8 ∧ a8 ≤ 0 ∧ 29 ≤ a11 ∧ a11 ≤ 99 ∧ a11 - a8 ≤ 198) (h10 : a8 ≤ a2 ∧ a2 ≤ a11 + 1) (h11 : 2147483648 - a2 < ((a6 + 1 : Nat) : Int)) (h12 : a3 = a11 ∧ -99 ≤ a8 ∧ a8 ≤ 0 ∧ 29 ≤ a11 ∧ a11 ≤ 99 ∧ a11 - a8 ≤ 198) (h13 : ¬ (a3 < a2)) (h14 : 0 ≤ a0 ∧ a0 ≤ 11 ∧ -99 ≤ a2 ∧ a2 ≤ 99 → a4 = 199 * a0 + a2 + 99) (r0 : -2147483648 ≤ a0 ∧ a0 < 2147483648) (r1 : -2147483648 ≤ a1 ∧ a1 < 2147483648) (r2 : -2147483648 ≤ a2 ∧ a2 < 2147483648) (r3 : -2147483648 ≤ a3 ∧ a3 < 2147483648) (r4 : -2147483648 ≤ a4 ∧ a4 < 2147483648) (r5 : -2147483648 ≤ a5 ∧ a5 < 2147483648) : 0 ≤ a4 ∧ a4 < ((2388 : Nat) : Int) := by first | (clear h3 h4 h5 h8; omega) | (clear h4 h5 h8; omega) | omega
theorem z_X11_moves_11 (a0 : Int) (a1 : Int) (a2 : Int) (a3 : Int) (a4 : Int) (a5 : Int) (a6 : Nat) (a7 : Nat) (a8 : Int) (a9 : Int) (a10 : Int) (a11 : Int) (h0 : (0 : Int) ≤ a0) (h1 : 2147483648 - a0 < ((a7 + 1 : Nat) : Int)) (h2 : ¬ ((12 : Int) ≤ a0)) (h3 : a5 = 0 ∨ (a5 = 1 ∧ 0 ≤ a0 ∧ a0 ≤ 11 ∧ 0 ≤ a9)) (h4 : a5 = 0 ∨ a5 = 1) (h5 : ¬ (a5 = 0)) (h6 : -1 ≤ a9 ∧ a9 ≤ 5) (h7 : -1 ≤ a10 ∧ a10 ≤ 2) (h8 : a9 = 1 ∨ a9 = 3 ∨ a9 = 4 → 0 ≤ a10) (h9 : a1 = a8 ∧ -99 ≤ a8 ∧ a8 ≤ 0 ∧ 29 ≤ a11 ∧ a11 ≤ 99 ∧ a11 - a8 ≤ 198) (h10 : a8 ≤ a2 ∧ a2 ≤ a11 + 1) (h11 : 2147483648 - a2 < ((a6 + 1 : Nat) : Int)) (h12 : a3 = a11 ∧ -99 ≤ a8 ∧ a8 ≤ 0 ∧ 29 ≤ a11 ∧ a11 ≤ 99 ∧ a11 - a8 ≤ 198) (h13 : ¬ (a3 < a2)) (h14 : 0 ≤ a0 ∧ a0 ≤ 11 ∧ -99 ≤ a2 ∧ a2 ≤ 99 → a4 = 199 * a0 + a2 + 99) (r0 : -2147483648 ≤ a0 ∧ a0 < 2147483648) (r1 : -2147483648 ≤ a1 ∧ a1 < 2147483648) (r2 : -2147483648 ≤ a2 ∧ a2 < 2147483648) (r3 : -2147483648 ≤ a3 ∧ a3 < 2147483648) (r4 : -2147483648 ≤ a4 ∧ a4 < 2147483648) (r5 : -2147483648 ≤ a5 ∧ a5 < 2147483648) : 0 ≤ a4 ∧ a4 < ((2388 : Nat) : Int) := by first | (clear h3 h4 h5 h8; omega) | (clear h4 h5 h8; omega) | omega
theorem z_X11_moves_12 (a0 : Int) (a1 : Int) (a2 : Int) (a3 : Int) (a4 : Int) (a5 : Int) (a6 : Nat) (a7 : Nat) (a8 : Int) (a9 : Int) (a10 : Int) (a11 : Int) (h0 : (0 : Int) ≤ a0) (h1 : 2147483648 - a0 < ((a7 + 1 : Nat) : Int)) (h2 : ¬ ((12 : Int) ≤ a0)) (h3 : a5 = 0 ∨ (a5 = 1 ∧ 0 ≤ a0 ∧ a0 ≤ 11 ∧ 0 ≤ a9)) (h4 : a5 = 0 ∨ a5 = 1) (h5 : ¬ (a5 = 0)) (h6 : -1 ≤ a9 ∧ a9 ≤ 5) (h7 : -1 ≤ a10 ∧ a10 ≤ 2) (h8 : a9 = 1 ∨ a9 = 3 ∨ a9 = 4 → 0 ≤ a10) (h9 : a1 = a8 ∧ -99 ≤ a8 ∧ a8 ≤ 0 ∧ 29 ≤ a11 ∧ a11 ≤ 99 ∧ a11 - a8 ≤ 198) (h10 : a8 ≤ a2 ∧ a2 ≤ a11 + 1) (h11 : 2147483648 - a2 < ((a6 + 1 : Nat) : Int)) (h12 : a3 = a11 ∧ -99 ≤ a8 ∧ a8 ≤ 0 ∧ 29 ≤ a11 ∧ a11 ≤ 99 ∧ a11 - a8 ≤ 198) (h13 : ¬ (a3 < a2)) (h14 : 0 ≤ a0 ∧ a0 ≤ 11 ∧ -99 ≤ a2 ∧ a2 ≤ 99 → a4 = 199 * a0 + a2 + 99) (r0 : -2147483648 ≤ a0 ∧ a0 < 2147483648) (r1 : -2147483648 ≤ a1 ∧ a1 < 2147483648) (r2 : -2147483648 ≤ a2 ∧ a2 < 2147483648) (r3 : -2147483648 ≤ a3 ∧ a3 < 2147483648) (r4 : -2147483648 ≤ a4 ∧ a4 < 2147483648) (r5 : -2147483648 ≤ a5 ∧ a5 < 2147483648) : 0 ≤ a4 ∧ a4 < ((2388 : Nat) : Int) := by first | (clear h3 h4 h5 h8; omega) | (clear h4 h5 h8; omega) | omega
theorem z_X11_moves_13 (a0 : Int) (h0 : 0 ≤ a0 ∧ a0 ≤ 3) (r0 : -2147483648 ≤ a0 ∧ a0 < 2147483648) : 0 ≤ a0 ∧ a0 < ((6 : Nat) : Int) := by omega
theorem z_X11_moves_14 (a0 : Int) (h0 : 0 ≤ a0 ∧ a0 ≤ 3) (r0 : -2147483648 ≤ a0 ∧ a0 < 2147483648) : 0 ≤ a0 ∧ a0 < ((6 : Nat) : Int) := by omega
theorem z_X11_moves_15 (a0 : Int) (h0 : 1 ≤ a0 ∧ a0 ≤ 2) (r0 : -2147483648 ≤ a0 ∧ a0 < 2147483648) : 0 ≤ a0 ∧ a0 < ((6 : Nat) : Int) := by omega
theorem z_X11_moves_16 (a0 : Int) (h0 : 1 ≤ a0 ∧ a0 ≤ 2) (r0 : -2147483648 ≤ a0 ∧ a0 < 2147483648) : 0 ≤ a0 ∧ a0 < ((6 : Nat) : Int) := by omega
theorem z_X11_moves_17 (a0 : Int) (a1 : Int) (a2 : Int) (a3 : Int) (a4 : Int) (a5 : Int) (a6 : Int) (a7 : Nat) (a8 : Nat) (a9 : Int) (a10 : Int) (a11 : Int) (a12 : Int) (h0 : (0 : Int) ≤ a0) (h1 : 2147483648 - a0 < ((a8 + 1 : Nat) : Int)) (h2 : ¬ ((12 : Int) ≤ a0)) (h3 : a6 = 0 ∨ (a6 = 1 ∧ 0 ≤ a0 ∧ a0 ≤ 11 ∧ 0 ≤ a10)) (h4 : a6 = 0 ∨ a6 = 1) (h5 : ¬ (a6 = 0)) (h6 : -1 ≤ a10 ∧ a10 ≤ 5) (h7 : -1 ≤ a11 ∧ a11 ≤ 2) (h8 : a10 = 1 ∨ a10 = 3 ∨ a10 = 4 → 0 ≤ a11) (h9 : a1 = a9 ∧ -99 ≤ a9 ∧ a9 ≤ 0 ∧ 29 ≤ a12 ∧ a12 ≤ 99 ∧ a12 - a9 ≤ 198) (h10 : a9 ≤ a2 ∧ a2 ≤ a12 + 1) (h11 : 2147483648 - a2 < ((a7 + 1 : Nat) : Int)) (h12 : a3 = a12 ∧ -99 ≤ a9 ∧ a9 ≤ 0 ∧ 29 ≤ a12 ∧ a12 ≤ 99 ∧ a12 - a9 ≤ 198) (h13 : ¬ (a3 < a2)) (h14 : 0 ≤ a0 ∧ a0 ≤ 11 ∧ -99 ≤ a2 ∧ a2 ≤ 99 → a4 = 199 * a0 + a2 + 99) (h15 : a5 = a2 + 1 ∨ a2 + 1 < -2147483648 ∨ 2147483648 ≤ a2 + 1) (r0 : -2147483648 ≤ a0 ∧ a0 < 2147483648) (r1 : -2147483648 ≤ a1 ∧ a1 < 2147483648) (r2 : -2147483648 ≤ a2 ∧ a2 < 2147483648) (r3 : -2147483648 ≤ a3 ∧ a3 < 2147483648) (r4 : -2147483648 ≤ a4 ∧ a4 < 2147483648) (r5 : -2147483648 ≤ a5 ∧ a5 < 2147483648) (r6 : -2147483648 ≤ a6 ∧ a6 < 2147483648) : a9 ≤ a5 ∧ a5 ≤ a12 + 1 := by first | (clear h3 h4 h5 h8 h14; omega) | (clear h3 h4 h5 h8; omega) | (clear h4 h5 h8; omega) | omega
theorem z_X11_moves_18 (a0 : Int) (a1 : Int) (a2 : Int) (a3 : Int) (a4 : Int) (a5 : Int) (a6 : Int) (a7 : Nat) (a8 : Nat) (a9 : Int) (a10 : Int) (a11 : Int) (a12 : Int) (h0 : (0 : Int) ≤ a0) (h1 : 2147483648 - a0 < ((a8 + 1 : Nat) : Int)) (h2 : ¬ ((12 : Int) ≤ a0)) (h3 : a6 = 0 ∨ (a6 = 1 ∧ 0 ≤ a0 ∧ a0 ≤ 11 ∧ 0 ≤ a10)) (h4 : a6 = 0 ∨ a6 = 1) (h5 : ¬ (a6 = 0)) (h6 : -1 ≤ a10 ∧ a10 ≤ 5) (h7 : -1 ≤ a11 ∧ a11 ≤ 2) (h8 : a10 = 1 ∨ a10 = 3 ∨ a10 = 4 → 0 ≤ a11) (h9 : a1 = a9 ∧ -99 ≤ a9 ∧ a9 ≤ 0 ∧ 29 ≤ a12 ∧ a12 ≤ 99 ∧ a12 - a9 ≤ 198) (h10 : a9 ≤ a2 ∧ a2 ≤ a12 + 1) (h11 : 2147483648 - a2 < ((a7 + 1 : Nat) : Int)) (h12 : a3 = a12 ∧ -99 ≤ a9 ∧ a9 ≤ 0 ∧ 29 ≤ a12 ∧ a12 ≤ 99 ∧ a12 - a9 ≤ 198) (h13 : ¬ (a3 < a2)) (h14 : 0 ≤ a0 ∧ a0 ≤ 11 ∧ -99 ≤ a2 ∧ a2 ≤ 99 → a4 = 199 * a0 + a2 + 99) (h15 : a5 = a2 + 1 ∨ a2 + 1 < -2147483648 ∨ 2147483648 ≤ a2 + 1) (r0 : -2147483648 ≤ a0 ∧ a0 < 2147483648) (r1 : -2147483648 ≤ a1 ∧ a1 < 2147483648) (r2 : -2147483648 ≤ a2 ∧ a2 < 2147483648) (r3 : -2147483648 ≤ a3 ∧ a3 < 2147483648) (r4 : -2147483648 ≤ a4 ∧ a4 < 2147483648) (r5 : -2147483648 ≤ a5 ∧ a5 < 2147483648) (r6 : -2147483648 ≤ a6 ∧ a6 < 2147483648) : 2147483648 - a5 < ((a7 : Nat) : Int) := by first | (clear h3 h4 h5 h8 h14; omega) | (clear h3 h4 h5 h8; omega) | (clear h4 h5 h8; omega) | omega
theorem z_X11_moves_19 (a0 : Int) (a1 : Int) (a2 : Int) (h0 : a0 = a1 ∧ -99 ≤ a1 ∧ a1 ≤ 0 ∧ 29 ≤ a2 ∧ a2 ≤ 99 ∧ a2 - a1 ≤ 198) (r0 : -2147483648 ≤ a0 ∧ a0 < 2147483648) : a1 ≤ a0 ∧ a0 ≤ a2 + 1 := by omega
theorem z_X11_moves_20 (a0 : Int) (a1 : Int) (a2 : Int) (h0 : a0 = a1 ∧ -99 ≤ a1 ∧ a1 ≤ 0 ∧ 29 ≤ a2 ∧ a2 ≤ 99 ∧ a2 - a1 ≤ 198) (r0 : -2147483648 ≤ a0 ∧ a0 < 2147483648) : 2147483648 - a0 < ((4294967297 : Nat) : Int) := by omega
abbrev rm_X11_moves : Room := { frames := 2, cells := 0, slots := 0, locals := 46 }
set_option maxHeartbeats 4000000 in
set_option maxRecDepth 100000 in
theorem c_X11_moves (l : Launch) (E : XE) (K : Nat → Nat) (F : Nat → Nat → Nat) (tl z0 z1 z2 z3 z4 z5 z6 z7 z8 z9 z10 z11 z12 z13 z14 z15 z16 z17 z18 z19 z20 : Int32) (ar0 ar1 ar2 ar3 ar4 ar5 ar6 ar7 ar8 ar9 ar10 : Nat → Int32) (a : Nat) (p0 : Nat) (p1 : Nat) (p2 : Int32) (ha : K a = 13) (hp0 : K p0 = 38) (hp1 : K p1 = 38) (hR : RV ar1) (e0 : 1 ≤ p2.toInt ∧ p2.toInt ≤ 2) : Met l yX11_moves (xw yX11_moves cX11_moves 9 none) rm_X11_moves (va_Pc [.ref a, .ref p0, .ref p1, .int p2] (XP E K F (tl, [z0, z1, z2, z3, z4, z5, z6, z7, z8, z9, z10, z11, z12, z13, z14, z15, z16, z17, z18, z19, z20], [ar0, ar1, ar2, ar3, ar4, ar5, ar6, ar7, ar8, ar9, ar10]))) (XQv E (fun (u : Unit) => True) (fun _ H => TW E K F (tl, [z0, z1, z2, z3, z4, z5, z6, z7, z8, z9, z10, z11, z12, z13, z14, z15, z16, z17, z18, z19, z20], [ar0, ar1, ar2, ar3, ar4, ar5, ar6, ar7, ar8, ar9, ar10]) [] H)) 0 0 (xA E) := by
  refine x_enter (by decide) (Nat.le_of_ble_eq_true rfl) ?_
  intro p e s m args below meth c Q S hr hlk hnm hQ hP ls hl
  obtain ⟨hz, hK, hT⟩ := hP
  obtain ⟨hx, hb, -, -, -⟩ := id S
  obtain ⟨H, hT, hS, hgo⟩ : ∃ H : Heap, TW E K F (tl, [z0, z1, z2, z3, z4, z5, z6, z7, z8, z9, z10, z11, z12, z13, z14, z15, z16, z17, z18, z19, z20], [ar0, ar1, ar2, ar3, ar4, ar5, ar6, ar7, ar8, ar9, ar10]) [] H ∧ va_S (xA E) s.heap H [] ∧ H = s.heap := ⟨_, hT, va_S.rf, rfl⟩
  rw [← hgo]
  have hl : lv_has ls 9 [(0, .ref a), (1, .ref p0), (2, .ref p1), (3, .int p2)] := hl
  refine lv_iconst (v := 0) hx hb dX11_moves_0 (by decide) ?_
  refine lv_istore (lv' := [(4, .int 0), (0, .ref a), (1, .ref p0), (2, .ref p1), (3, .int p2)]) hx hb dX11_moves_1 hl (by decide) rfl (fun ls hl => ?_)
  have L3 : ∀ (N2 : Nat) (x1 : Int32) (H : Heap) (locs : List Loc) (ls : Array Slot), (0 : Int) ≤ x1.toInt → 2147483648 - x1.toInt < ((N2 : Nat) : Int) → TW E K F (tl, [z0, z1, z2, z3, z4, z5, z6, z7, z8, z9, z10, z11, z12, z13, z14, z15, z16, z17, z18, z19, z20], [ar0, ar1, ar2, ar3, ar4, ar5, ar6, ar7, ar8, ar9, ar10]) [] H → va_S (xA E) s.heap H locs → lv_has ls 9 [(0, .ref a), (1, .ref p0), (2, .ref p1), (3, .int p2), (4, .int x1)] → W p l e rm_X11_moves s m args below meth c H locs 0 0 Q (F0 m 3 ls []) := by
    intro N2
    induction N2 with
    | zero =>
      intro x1 H locs ls hf3 hm4
      exact absurd hm4 (z_X11_moves_1 x1.toInt hf3 (xr x1))
    | succ N2 ih5 =>
      intro x1 H locs ls hf3 hm4 hT hS hl
      refine lv_iload hx hb dX11_moves_3 (lv_at hl 4 rfl) ?_
      refine lv_bipush (v := 12) hx hb dX11_moves_5 (by decide) ?_
      refine xi_cge (tgt := 170) hx hb (rfl : Int32.toInt x1 = x1.toInt) ((by decide) : Int32.toInt 12 = (12 : Int)) dX11_moves_7 (by decide) (fun c6 => ?_) (fun c6 => ?_)
      · exact x_rv hx hb hr hlk hQ (Nat.le_of_ble_eq_true rfl) (Nat.le_of_ble_eq_true rfl) hS dX11_moves_170 () trivial hT.nil
      · refine lv_aload_n hx hb dX11_moves_10 rfl (lv_at hl 0 rfl) ?_
        refine lv_iload hx hb dX11_moves_11 (lv_at hl 4 rfl) ?_
        refine x_clp (x_runV (b := a) (As := [.int x1]) (rest := []) S (c_X11_isRule l E K F tl z0 z1 z2 z3 z4 z5 z6 z7 z8 z9 z10 z11 z12 z13 z14 z15 z16 z17 z18 z19 z20 ar0 ar1 ar2 ar3 ar4 ar5 ar6 ar7 ar8 ar9 ar10 H a x1 ha hR) mv_X11_isRule km_X11_162 rfl rfl ⟨Nat.le_of_ble_eq_true rfl, Nat.le_of_ble_eq_true rfl⟩ (rc_13 hK hT ha) hK (fun _ => XPh.blind) (fun U hU hW => XPh.at hK hz hS hT hU hW) rfl hl.1 (Nat.le_of_ble_eq_true rfl) dX11_moves_13 ⟨Nat.le_of_ble_eq_true rfl, Nat.le_of_ble_eq_true rfl⟩) hS ?_
        rintro _ _ locs ⟨x8, rfl, b9, t7⟩ hS
        have t7 : x8.toInt = 0 ∨ (x8.toInt = 1 ∧ 0 ≤ x1.toInt ∧ x1.toInt ≤ 11 ∧ 0 ≤ (aI ar1 (10 * x1.toInt + (0 : Int)))) := t7
        have J164 : ∀ (H : Heap) (locs : List Loc) (ls : Array Slot), TW E K F (tl, [z0, z1, z2, z3, z4, z5, z6, z7, z8, z9, z10, z11, z12, z13, z14, z15, z16, z17, z18, z19, z20], [ar0, ar1, ar2, ar3, ar4, ar5, ar6, ar7, ar8, ar9, ar10]) [] H → va_S (xA E) s.heap H locs → lv_has ls 9 [(0, .ref a), (1, .ref p0), (2, .ref p1), (3, .int p2), (4, .int x1)] → W p l e rm_X11_moves s m args below meth c H locs 0 0 Q (F0 m 164 ls []) := by
          intro H locs ls hT hS hl
          refine xi_iinc (n := 1) (lv' := fun z9 => [(4, .int z9), (0, .ref a), (1, .ref p0), (2, .ref p1), (3, .int p2)]) (k := 4) hx hb (rfl : Int32.toInt x1 = x1.toInt) (by decide) dX11_moves_164 hl rfl (by decide) (fun _ => rfl) (fun x10 ls t11 hl => ?_)
          have hl : lv_has ls 9 [(4, .int x10), (0, .ref a), (1, .ref p0), (2, .ref p1), (3, .int p2)] := hl
          refine lv_goto (tgt := 3) hx hb dX11_moves_167 (by decide) ?_
          exact ih5 x10 _ _ _ (z_X11_moves_2 x1.toInt x10.toInt x8.toInt N2 (aI ar1 (10 * x1.toInt + (0 : Int))) hf3 hm4 c6 t7 (xbz b9) t11 (xr x1) (xr x10) (xr x8)) (z_X11_moves_3 x1.toInt x10.toInt x8.toInt N2 (aI ar1 (10 * x1.toInt + (0 : Int))) hf3 hm4 c6 t7 (xbz b9) t11 (xr x1) (xr x10) (xr x8)) hT.nil hS (lv_sub hl [1, 2, 3, 4, 0] rfl)
        refine xi_zeq (tgt := 164) hx hb (rfl : Int32.toInt x8 = x8.toInt) dX11_moves_16 (by decide) (fun c12 => ?_) (fun c12 => ?_)
        · exact J164 _ _ _ hT.nil hS (lv_sub hl [0, 1, 2, 3, 4] rfl)
        · refine lv_aload_n hx hb dX11_moves_19 rfl (lv_at hl 0 rfl) ?_
          refine lv_iload hx hb dX11_moves_20 (lv_at hl 4 rfl) ?_
          refine lv_bipush (v := 6) hx hb dX11_moves_22 (by decide) ?_
          refine x_clp (x_runV (b := a) (As := [.int x1, .int 6]) (rest := []) S (c_X11_of l E K F tl z0 z1 z2 z3 z4 z5 z6 z7 z8 z9 z10 z11 z12 z13 z14 z15 z16 z17 z18 z19 z20 ar0 ar1 ar2 ar3 ar4 ar5 ar6 ar7 ar8 ar9 ar10 H a x1 6 ha (z_X11_moves_4 x1.toInt x8.toInt N2 (aI ar1 (10 * x1.toInt + (0 : Int))) hf3 hm4 c6 t7 (xbz b9) c12 (xr x1) (xr x8)) (by decide)) mv_X11_of km_X11_165 rfl rfl ⟨Nat.le_of_ble_eq_true rfl, Nat.le_of_ble_eq_true rfl⟩ (rc_13 hK hT ha) hK (fun _ => XPh.blind) (fun U hU hW => XPh.at hK hz hS hT hU hW) rfl hl.1 (Nat.le_of_ble_eq_true rfl) dX11_moves_24 ⟨Nat.le_of_ble_eq_true rfl, Nat.le_of_ble_eq_true rfl⟩) hS ?_
          rintro _ _ locs ⟨x14, rfl, t13⟩ hS
          have t13 : x14.toInt = (aI ar1 (10 * x1.toInt + (6 : Int))) := t13
          have v16 : (-1 ≤ (aI ar1 (10 * x1.toInt + (0 : Int))) ∧ (aI ar1 (10 * x1.toInt + (0 : Int))) ≤ 5) ∧ (0 ≤ (aI ar1 (10 * x1.toInt + (1 : Int))) ∧ (aI ar1 (10 * x1.toInt + (1 : Int))) ≤ 2) ∧ (0 ≤ (aI ar1 (10 * x1.toInt + (2 : Int))) ∧ (aI ar1 (10 * x1.toInt + (2 : Int))) ≤ 2) ∧ (-1 ≤ (aI ar1 (10 * x1.toInt + (3 : Int))) ∧ (aI ar1 (10 * x1.toInt + (3 : Int))) ≤ 2) ∧ ((aI ar1 (10 * x1.toInt + (0 : Int))) = 1 ∨ (aI ar1 (10 * x1.toInt + (0 : Int))) = 3 ∨ (aI ar1 (10 * x1.toInt + (0 : Int))) = 4 → 0 ≤ (aI ar1 (10 * x1.toInt + (3 : Int)))) := RV.row hR (z_X11_moves_5 x1.toInt x8.toInt N2 (aI ar1 (10 * x1.toInt + (0 : Int))) hf3 hm4 c6 t7 (xbz b9) c12 (xr x1) (xr x8))
          refine lv_iconst (v := 1) hx hb dX11_moves_27 (by decide) ?_
          refine xi_cne (tgt := 164) hx hb (rfl : Int32.toInt x14 = x14.toInt) ((by decide) : Int32.toInt 1 = (1 : Int)) dX11_moves_28 (by decide) (fun c17 => ?_) (fun c17 => ?_)
          · exact J164 _ _ _ hT.nil hS (lv_sub hl [0, 1, 2, 3, 4] rfl)
          · refine lv_aload_n hx hb dX11_moves_31 rfl (lv_at hl 0 rfl) ?_
            refine lv_iload hx hb dX11_moves_32 (lv_at hl 4 rfl) ?_
            refine x_clp (x_runV (b := a) (As := [.int x1]) (rest := []) S (c_X11_firstSubject l E K F tl z0 z1 z2 z3 z4 z5 z6 z7 z8 z9 z10 z11 z12 z13 z14 z15 z16 z17 z18 z19 z20 ar0 ar1 ar2 ar3 ar4 ar5 ar6 ar7 ar8 ar9 ar10 H a x1 ha hR (z_X11_moves_6 x1.toInt x8.toInt N2 (aI ar1 (10 * x1.toInt + (0 : Int))) (aI ar1 (10 * x1.toInt + (3 : Int))) hf3 hm4 c6 t7 (xbz b9) c12 (v16).1 (v16).2.2.2.1 (v16).2.2.2.2 (xr x1) (xr x8))) mv_X11_firstSubject km_X11_179 rfl rfl ⟨Nat.le_of_ble_eq_true rfl, Nat.le_of_ble_eq_true rfl⟩ (rc_13 hK hT ha) hK (fun _ => XPh.blind) (fun U hU hW => XPh.at hK hz hS hT hU hW) rfl hl.1 (Nat.le_of_ble_eq_true rfl) dX11_moves_34 ⟨Nat.le_of_ble_eq_true rfl, Nat.le_of_ble_eq_true rfl⟩) hS ?_
            rintro _ _ locs ⟨x19, rfl, t18⟩ hS
            have t18 : x19.toInt = (aF ar1 x1.toInt) ∧ -99 ≤ (aF ar1 x1.toInt) ∧ (aF ar1 x1.toInt) ≤ 0 ∧ 29 ≤ (aL ar1 x1.toInt) ∧ (aL ar1 x1.toInt) ≤ 99 ∧ (aL ar1 x1.toInt) - (aF ar1 x1.toInt) ≤ 198 := t18
            refine lv_istore (lv' := [(5, .int x19), (0, .ref a), (1, .ref p0), (2, .ref p1), (3, .int p2), (4, .int x1)]) hx hb dX11_moves_37 hl (by decide) rfl (fun ls hl => ?_)
            have L39 : ∀ (N22 : Nat) (x21 : Int32) (H : Heap) (locs : List Loc) (ls : Array Slot), (aF ar1 x1.toInt) ≤ x21.toInt ∧ x21.toInt ≤ (aL ar1 x1.toInt) + 1 → 2147483648 - x21.toInt < ((N22 : Nat) : Int) → TW E K F (tl, [z0, z1, z2, z3, z4, z5, z6, z7, z8, z9, z10, z11, z12, z13, z14, z15, z16, z17, z18, z19, z20], [ar0, ar1, ar2, ar3, ar4, ar5, ar6, ar7, ar8, ar9, ar10]) [] H → va_S (xA E) s.heap H locs → lv_has ls 9 [(0, .ref a), (1, .ref p0), (2, .ref p1), (3, .int p2), (4, .int x1), (5, .int x21)] → W p l e rm_X11_moves s m args below meth c H locs 0 0 Q (F0 m 39 ls []) := by
              intro N22
              induction N22 with
              | zero =>
                intro x21 H locs ls hf23 hm24
                exact absurd hm24 (z_X11_moves_7 x19.toInt x21.toInt (aF ar1 x1.toInt) (aL ar1 x1.toInt) hf23 t18 (xr x19) (xr x21))
              | succ N22 ih25 =>
                intro x21 H locs ls hf23 hm24 hT hS hl
                refine lv_iload hx hb dX11_moves_39 (lv_at hl 5 rfl) ?_
                refine lv_aload_n hx hb dX11_moves_41 rfl (lv_at hl 0 rfl) ?_
                refine lv_iload hx hb dX11_moves_42 (lv_at hl 4 rfl) ?_
                refine x_clp (x_runV (b := a) (As := [.int x1]) (rest := [.int x21]) S (c_X11_lastSubject l E K F tl z0 z1 z2 z3 z4 z5 z6 z7 z8 z9 z10 z11 z12 z13 z14 z15 z16 z17 z18 z19 z20 ar0 ar1 ar2 ar3 ar4 ar5 ar6 ar7 ar8 ar9 ar10 H a x1 ha hR (z_X11_moves_8 x1.toInt x8.toInt N2 (aI ar1 (10 * x1.toInt + (0 : Int))) (aI ar1 (10 * x1.toInt + (3 : Int))) hf3 hm4 c6 t7 (xbz b9) c12 (v16).1 (v16).2.2.2.1 (v16).2.2.2.2 (xr x1) (xr x8))) mv_X11_lastSubject km_X11_183 rfl rfl ⟨Nat.le_of_ble_eq_true rfl, Nat.le_of_ble_eq_true rfl⟩ (rc_13 hK hT ha) hK (fun _ => XPh.blind) (fun U hU hW => XPh.at hK hz hS hT hU hW) rfl hl.1 (Nat.le_of_ble_eq_true rfl) dX11_moves_44 ⟨Nat.le_of_ble_eq_true rfl, Nat.le_of_ble_eq_true rfl⟩) hS ?_
                rintro _ _ locs ⟨x27, rfl, t26⟩ hS
                have t26 : x27.toInt = (aL ar1 x1.toInt) ∧ -99 ≤ (aF ar1 x1.toInt) ∧ (aF ar1 x1.toInt) ≤ 0 ∧ 29 ≤ (aL ar1 x1.toInt) ∧ (aL ar1 x1.toInt) ≤ 99 ∧ (aL ar1 x1.toInt) - (aF ar1 x1.toInt) ≤ 198 := t26
                refine xi_cgt (tgt := 164) hx hb (rfl : Int32.toInt x21 = x21.toInt) (rfl : Int32.toInt x27 = x27.toInt) dX11_moves_47 (by decide) (fun c29 => ?_) (fun c29 => ?_)
                · exact J164 _ _ _ hT.nil hS (lv_sub hl [0, 1, 2, 3, 4] rfl)
                · refine lv_iload hx hb dX11_moves_50 (lv_at hl 4 rfl) ?_
                  refine lv_iload hx hb dX11_moves_52 (lv_at hl 5 rfl) ?_
                  refine x_clp (x_runS (As := [.int x1, .int x21]) (rest := []) S (c_X11_placeOf l E K F tl z0 z1 z2 z3 z4 z5 z6 z7 z8 z9 z10 z11 z12 z13 z14 z15 z16 z17 z18 z19 z20 ar0 ar1 ar2 ar3 ar4 ar5 ar6 ar7 ar8 ar9 ar10 H x1 x21) ms_X11_placeOf km_X11_186 rfl rfl ⟨Nat.le_of_ble_eq_true rfl, Nat.le_of_ble_eq_true rfl⟩ hK (fun _ => XPh.blind) (fun U hU hW => XPh.at hK hz hS hT hU hW) rfl hl.1 (Nat.le_of_ble_eq_true rfl) dX11_moves_54 ⟨Nat.le_of_ble_eq_true rfl, Nat.le_of_ble_eq_true rfl⟩) hS ?_
                  rintro _ _ locs ⟨x31, rfl, t30⟩ hS
                  have t30 : 0 ≤ x1.toInt ∧ x1.toInt ≤ 11 ∧ -99 ≤ x21.toInt ∧ x21.toInt ≤ 99 → x31.toInt = 199 * x1.toInt + x21.toInt + 99 := t30
                  refine lv_istore (lv' := [(6, .int x31), (0, .ref a), (1, .ref p0), (2, .ref p1), (3, .int p2), (4, .int x1), (5, .int x21)]) hx hb dX11_moves_57 hl (by decide) rfl (fun ls hl => ?_)
                  refine lv_aload_n hx hb dX11_moves_59 rfl (lv_at hl 2 rfl) ?_
                  refine lv_iload hx hb dX11_moves_60 (lv_at hl 0 rfl) ?_
                  refine al_0 S hK hT hp0 ar_38 (by decide) (z_X11_moves_9 x1.toInt x19.toInt x21.toInt x27.toInt x31.toInt x8.toInt N22 N2 (aF ar1 x1.toInt) (aI ar1 (10 * x1.toInt + (0 : Int))) (aI ar1 (10 * x1.toInt + (3 : Int))) (aL ar1 x1.toInt) hf3 hm4 c6 t7 (xbz b9) c12 (v16).1 (v16).2.2.2.1 (v16).2.2.2.2 t18 hf23 hm24 t26 c29 t30 (xr x1) (xr x19) (xr x21) (xr x27) (xr x31) (xr x8)) dX11_moves_62 (fun x33 o34 => ?_)
                  refine lv_aload_n hx hb dX11_moves_63 rfl (lv_at hl 1 rfl) ?_
                  refine gX11_13 S hK hT ha kf_X11_42 dX11_moves_64 (fun hk35 => ?_)
                  refine lv_iload hx hb dX11_moves_67 (lv_at hl 0 rfl) ?_
                  refine al_0 S hK hT hk35 ar_38 (by decide) (z_X11_moves_10 x1.toInt x19.toInt x21.toInt x27.toInt x31.toInt x8.toInt N22 N2 (aF ar1 x1.toInt) (aI ar1 (10 * x1.toInt + (0 : Int))) (aI ar1 (10 * x1.toInt + (3 : Int))) (aL ar1 x1.toInt) hf3 hm4 c6 t7 (xbz b9) c12 (v16).1 (v16).2.2.2.1 (v16).2.2.2.2 t18 hf23 hm24 t26 c29 t30 (xr x1) (xr x19) (xr x21) (xr x27) (xr x31) (xr x8)) dX11_moves_69 (fun x36 o37 => ?_)
                  have J78 : ∀ (x38 : Int32) (H : Heap) (locs : List Loc) (ls : Array Slot), TW E K F (tl, [z0, z1, z2, z3, z4, z5, z6, z7, z8, z9, z10, z11, z12, z13, z14, z15, z16, z17, z18, z19, z20], [ar0, ar1, ar2, ar3, ar4, ar5, ar6, ar7, ar8, ar9, ar10]) [] H → va_S (xA E) s.heap H locs → lv_has ls 9 [(0, .ref a), (1, .ref p0), (2, .ref p1), (3, .int p2), (4, .int x1), (5, .int x21), (6, .int x31)] → W p l e rm_X11_moves s m args below meth c H locs 0 0 Q (F0 m 78 ls [.int x38]) := by
                    intro x38 H locs ls hT hS hl
                    refine lv_istore (lv' := [(7, .int x38), (0, .ref a), (1, .ref p0), (2, .ref p1), (3, .int p2), (4, .int x1), (5, .int x21), (6, .int x31)]) hx hb dX11_moves_78 hl (by decide) rfl (fun ls hl => ?_)
                    refine lv_aload_n hx hb dX11_moves_80 rfl (lv_at hl 3 rfl) ?_
                    refine lv_iload hx hb dX11_moves_81 (lv_at hl 7 rfl) ?_
                    refine al_0 S hK hT hp1 ar_38 (by decide) (z_X11_moves_11 x1.toInt x19.toInt x21.toInt x27.toInt x31.toInt x8.toInt N22 N2 (aF ar1 x1.toInt) (aI ar1 (10 * x1.toInt + (0 : Int))) (aI ar1 (10 * x1.toInt + (3 : Int))) (aL ar1 x1.toInt) hf3 hm4 c6 t7 (xbz b9) c12 (v16).1 (v16).2.2.2.1 (v16).2.2.2.2 t18 hf23 hm24 t26 c29 t30 (xr x1) (xr x19) (xr x21) (xr x27) (xr x31) (xr x8)) dX11_moves_83 (fun x39 o40 => ?_)
                    refine lv_aload_n hx hb dX11_moves_84 rfl (lv_at hl 1 rfl) ?_
                    refine gX11_13 S hK hT ha kf_X11_42 dX11_moves_85 (fun hk41 => ?_)
                    refine lv_iload hx hb dX11_moves_88 (lv_at hl 7 rfl) ?_
                    refine al_0 S hK hT hk41 ar_38 (by decide) (z_X11_moves_12 x1.toInt x19.toInt x21.toInt x27.toInt x31.toInt x8.toInt N22 N2 (aF ar1 x1.toInt) (aI ar1 (10 * x1.toInt + (0 : Int))) (aI ar1 (10 * x1.toInt + (3 : Int))) (aL ar1 x1.toInt) hf3 hm4 c6 t7 (xbz b9) c12 (v16).1 (v16).2.2.2.1 (v16).2.2.2.2 t18 hf23 hm24 t26 c29 t30 (xr x1) (xr x19) (xr x21) (xr x27) (xr x31) (xr x8)) dX11_moves_90 (fun x42 o43 => ?_)
                    have J99 : ∀ (x44 : Int32) (H : Heap) (locs : List Loc) (ls : Array Slot), TW E K F (tl, [z0, z1, z2, z3, z4, z5, z6, z7, z8, z9, z10, z11, z12, z13, z14, z15, z16, z17, z18, z19, z20], [ar0, ar1, ar2, ar3, ar4, ar5, ar6, ar7, ar8, ar9, ar10]) [] H → va_S (xA E) s.heap H locs → lv_has ls 9 [(0, .ref a), (1, .ref p0), (2, .ref p1), (3, .int p2), (4, .int x1), (5, .int x21), (7, .int x38)] → W p l e rm_X11_moves s m args below meth c H locs 0 0 Q (F0 m 99 ls [.int x44]) := by
                      intro x44 H locs ls hT hS hl
                      refine lv_istore (lv' := [(8, .int x44), (0, .ref a), (1, .ref p0), (2, .ref p1), (3, .int p2), (4, .int x1), (5, .int x21), (7, .int x38)]) hx hb dX11_moves_99 hl (by decide) rfl (fun ls hl => ?_)
                      refine lv_aload_n hx hb dX11_moves_101 rfl (lv_at hl 1 rfl) ?_
                      refine gX11_8 S hK hT ha kf_X11_27 dX11_moves_102 (fun hk45 => ?_)
                      refine lv_iload_n hx hb dX11_moves_105 rfl (lv_at hl 4 rfl) ?_
                      refine lv_iconst (v := 1) hx hb dX11_moves_106 (by decide) ?_
                      have J115 : ∀ (x46 : Int32) (H : Heap) (locs : List Loc) (ls : Array Slot), 0 ≤ x46.toInt ∧ x46.toInt ≤ 3 → TW E K F (tl, [z0, z1, z2, z3, z4, z5, z6, z7, z8, z9, z10, z11, z12, z13, z14, z15, z16, z17, z18, z19, z20], [ar0, ar1, ar2, ar3, ar4, ar5, ar6, ar7, ar8, ar9, ar10]) [] H → va_S (xA E) s.heap H locs → lv_has ls 9 [(0, .ref a), (1, .ref p0), (2, .ref p1), (3, .int p2), (4, .int x1), (5, .int x21), (7, .int x38), (8, .int x44)] → W p l e rm_X11_moves s m args below meth c H locs 0 0 Q (F0 m 115 ls [.int x46, .ref (F a 8)]) := by
                        intro x46 H locs ls hf47 hT hS hl
                        refine lv_dup2_11 hx hb dX11_moves_115 rfl rfl ?_
                        refine al_0 S hK hT hk45 ar_35 (by decide) (z_X11_moves_13 x46.toInt hf47 (xr x46)) dX11_moves_116 (fun x48 o49 => ?_)
                        refine lv_iload hx hb dX11_moves_117 (lv_at hl 7 rfl) ?_
                        have J132 : ∀ (x50 : Int32) (H : Heap) (locs : List Loc) (ls : Array Slot), TW E K F (tl, [z0, z1, z2, z3, z4, z5, z6, z7, z8, z9, z10, z11, z12, z13, z14, z15, z16, z17, z18, z19, z20], [ar0, ar1, ar2, ar3, ar4, ar5, ar6, ar7, ar8, ar9, ar10]) [] H → va_S (xA E) s.heap H locs → lv_has ls 9 [(0, .ref a), (1, .ref p0), (2, .ref p1), (3, .int p2), (4, .int x1), (5, .int x21), (7, .int x38), (8, .int x44)] → W p l e rm_X11_moves s m args below meth c H locs 0 0 Q (F0 m 132 ls [.int x50, .int x48, .int x46, .ref (F a 8)]) := by
                          intro x50 H locs ls hT hS hl
                          refine xi_iadd hx hb (rfl : Int32.toInt x48 = x48.toInt) (rfl : Int32.toInt x50 = x50.toInt) dX11_moves_132 (fun x51 t52 => ?_)
                          refine as_0 S hK hT hS hk45 ar_35 aw_35 (by decide) (z_X11_moves_14 x46.toInt hf47 (xr x46)) dX11_moves_133 (fun H locs hT hS => ?_)
                          refine lv_aload_n hx hb dX11_moves_134 rfl (lv_at hl 0 rfl) ?_
                          refine gX11_8 S hK hT ha kf_X11_27 dX11_moves_135 (fun hk53 => ?_)
                          refine lv_iload_n hx hb dX11_moves_138 rfl (lv_at hl 3 rfl) ?_
                          refine lv_dup2_11 hx hb dX11_moves_139 rfl rfl ?_
                          refine al_0 S hK hT hk53 ar_35 (by decide) (z_X11_moves_15 p2.toInt e0 (xr p2)) dX11_moves_140 (fun x54 o55 => ?_)
                          refine lv_iload hx hb dX11_moves_141 (lv_at hl 6 rfl) ?_
                          have J156 : ∀ (x56 : Int32) (H : Heap) (locs : List Loc) (ls : Array Slot), TW E K F (tl, [z0, z1, z2, z3, z4, z5, z6, z7, z8, z9, z10, z11, z12, z13, z14, z15, z16, z17, z18, z19, z20], [ar0, ar1, ar2, ar3, ar4, ar5, ar6, ar7, ar8, ar9, ar10]) [] H → va_S (xA E) s.heap H locs → lv_has ls 9 [(0, .ref a), (1, .ref p0), (2, .ref p1), (3, .int p2), (4, .int x1), (5, .int x21)] → W p l e rm_X11_moves s m args below meth c H locs 0 0 Q (F0 m 156 ls [.int x56, .int x54, .int p2, .ref (F a 8)]) := by
                            intro x56 H locs ls hT hS hl
                            refine xi_iadd hx hb (rfl : Int32.toInt x54 = x54.toInt) (rfl : Int32.toInt x56 = x56.toInt) dX11_moves_156 (fun x57 t58 => ?_)
                            refine as_0 S hK hT hS hk53 ar_35 aw_35 (by decide) (z_X11_moves_16 p2.toInt e0 (xr p2)) dX11_moves_157 (fun H locs hT hS => ?_)
                            refine xi_iinc (n := 1) (lv' := fun z9 => [(5, .int z9), (0, .ref a), (1, .ref p0), (2, .ref p1), (3, .int p2), (4, .int x1)]) (k := 5) hx hb (rfl : Int32.toInt x21 = x21.toInt) (by decide) dX11_moves_158 hl rfl (by decide) (fun _ => rfl) (fun x59 ls t60 hl => ?_)
                            have hl : lv_has ls 9 [(5, .int x59), (0, .ref a), (1, .ref p0), (2, .ref p1), (3, .int p2), (4, .int x1)] := hl
                            refine lv_goto (tgt := 39) hx hb dX11_moves_161 (by decide) ?_
                            exact ih25 x59 _ _ _ (z_X11_moves_17 x1.toInt x19.toInt x21.toInt x27.toInt x31.toInt x59.toInt x8.toInt N22 N2 (aF ar1 x1.toInt) (aI ar1 (10 * x1.toInt + (0 : Int))) (aI ar1 (10 * x1.toInt + (3 : Int))) (aL ar1 x1.toInt) hf3 hm4 c6 t7 (xbz b9) c12 (v16).1 (v16).2.2.2.1 (v16).2.2.2.2 t18 hf23 hm24 t26 c29 t30 t60 (xr x1) (xr x19) (xr x21) (xr x27) (xr x31) (xr x59) (xr x8)) (z_X11_moves_18 x1.toInt x19.toInt x21.toInt x27.toInt x31.toInt x59.toInt x8.toInt N22 N2 (aF ar1 x1.toInt) (aI ar1 (10 * x1.toInt + (0 : Int))) (aI ar1 (10 * x1.toInt + (3 : Int))) (aL ar1 x1.toInt) hf3 hm4 c6 t7 (xbz b9) c12 (v16).1 (v16).2.2.2.1 (v16).2.2.2.2 t18 hf23 hm24 t26 c29 t30 t60 (xr x1) (xr x19) (xr x21) (xr x27) (xr x31) (xr x59) (xr x8)) hT.nil hS (lv_sub hl [1, 2, 3, 4, 5, 0] rfl)
                          have J155 : ∀ (H : Heap) (locs : List Loc) (ls : Array Slot), TW E K F (tl, [z0, z1, z2, z3, z4, z5, z6, z7, z8, z9, z10, z11, z12, z13, z14, z15, z16, z17, z18, z19, z20], [ar0, ar1, ar2, ar3, ar4, ar5, ar6, ar7, ar8, ar9, ar10]) [] H → va_S (xA E) s.heap H locs → lv_has ls 9 [(0, .ref a), (1, .ref p0), (2, .ref p1), (3, .int p2), (4, .int x1), (5, .int x21)] → W p l e rm_X11_moves s m args below meth c H locs 0 0 Q (F0 m 155 ls [.int x54, .int p2, .ref (F a 8)]) := by
                            intro H locs ls hT hS hl
                            refine lv_iconst (v := 0) hx hb dX11_moves_155 (by decide) ?_
                            exact J156 0 _ _ _ hT.nil hS (lv_sub hl [0, 1, 2, 3, 4, 5] rfl)
                          refine xi_zeq (tgt := 155) hx hb (rfl : Int32.toInt x38 = x38.toInt) dX11_moves_143 (by decide) (fun c61 => ?_) (fun c61 => ?_)
                          · exact J155 _ _ _ hT.nil hS (lv_sub hl [0, 1, 2, 3, 4, 5] rfl)
                          · refine lv_iload hx hb dX11_moves_146 (lv_at hl 7 rfl) ?_
                            refine xi_zne (tgt := 155) hx hb (rfl : Int32.toInt x44 = x44.toInt) dX11_moves_148 (by decide) (fun c62 => ?_) (fun c62 => ?_)
                            · exact J155 _ _ _ hT.nil hS (lv_sub hl [0, 1, 2, 3, 4, 5] rfl)
                            · refine lv_iconst (v := 1) hx hb dX11_moves_151 (by decide) ?_
                              refine lv_goto (tgt := 156) hx hb dX11_moves_152 (by decide) ?_
                              exact J156 1 _ _ _ hT.nil hS (lv_sub hl [0, 1, 2, 3, 4, 5] rfl)
                        have J131 : ∀ (H : Heap) (locs : List Loc) (ls : Array Slot), TW E K F (tl, [z0, z1, z2, z3, z4, z5, z6, z7, z8, z9, z10, z11, z12, z13, z14, z15, z16, z17, z18, z19, z20], [ar0, ar1, ar2, ar3, ar4, ar5, ar6, ar7, ar8, ar9, ar10]) [] H → va_S (xA E) s.heap H locs → lv_has ls 9 [(0, .ref a), (1, .ref p0), (2, .ref p1), (3, .int p2), (4, .int x1), (5, .int x21), (7, .int x38), (8, .int x44)] → W p l e rm_X11_moves s m args below meth c H locs 0 0 Q (F0 m 131 ls [.int x48, .int x46, .ref (F a 8)]) := by
                          intro H locs ls hT hS hl
                          refine lv_iconst (v := 0) hx hb dX11_moves_131 (by decide) ?_
                          exact J132 0 _ _ _ hT.nil hS (lv_sub hl [0, 1, 2, 3, 4, 5, 6, 7] rfl)
                        refine xi_zeq (tgt := 131) hx hb (rfl : Int32.toInt x44 = x44.toInt) dX11_moves_119 (by decide) (fun c63 => ?_) (fun c63 => ?_)
                        · exact J131 _ _ _ hT.nil hS (lv_sub hl [0, 1, 2, 3, 4, 5, 6, 7] rfl)
                        · refine lv_iload hx hb dX11_moves_122 (lv_at hl 6 rfl) ?_
                          refine xi_zne (tgt := 131) hx hb (rfl : Int32.toInt x38 = x38.toInt) dX11_moves_124 (by decide) (fun c64 => ?_) (fun c64 => ?_)
                          · exact J131 _ _ _ hT.nil hS (lv_sub hl [0, 1, 2, 3, 4, 5, 6, 7] rfl)
                          · refine lv_iconst (v := 1) hx hb dX11_moves_127 (by decide) ?_
                            refine lv_goto (tgt := 132) hx hb dX11_moves_128 (by decide) ?_
                            exact J132 1 _ _ _ hT.nil hS (lv_sub hl [0, 1, 2, 3, 4, 5, 6, 7] rfl)
                      refine xi_cne (tgt := 114) hx hb (rfl : Int32.toInt p2 = p2.toInt) ((by decide) : Int32.toInt 1 = (1 : Int)) dX11_moves_107 (by decide) (fun c65 => ?_) (fun c65 => ?_)
                      · refine lv_iconst (v := 3) hx hb dX11_moves_114 (by decide) ?_
                        exact J115 3 _ _ _ (by decide) hT.nil hS (lv_sub hl [1, 2, 3, 4, 5, 6, 7, 0] rfl)
                      · refine lv_iconst (v := 0) hx hb dX11_moves_110 (by decide) ?_
                        refine lv_goto (tgt := 115) hx hb dX11_moves_111 (by decide) ?_
                        exact J115 0 _ _ _ (by decide) hT.nil hS (lv_sub hl [1, 2, 3, 4, 5, 6, 7, 0] rfl)
                    refine xi_ceq (tgt := 98) hx hb (rfl : Int32.toInt x39 = x39.toInt) (rfl : Int32.toInt x42 = x42.toInt) dX11_moves_91 (by decide) (fun c66 => ?_) (fun c66 => ?_)
                    · refine lv_iconst (v := 0) hx hb dX11_moves_98 (by decide) ?_
                      exact J99 0 _ _ _ hT.nil hS (lv_sub hl [1, 2, 3, 4, 5, 6, 0] rfl)
                    · refine lv_iconst (v := 1) hx hb dX11_moves_94 (by decide) ?_
                      refine lv_goto (tgt := 99) hx hb dX11_moves_95 (by decide) ?_
                      exact J99 1 _ _ _ hT.nil hS (lv_sub hl [1, 2, 3, 4, 5, 6, 0] rfl)
                  refine xi_ceq (tgt := 77) hx hb (rfl : Int32.toInt x33 = x33.toInt) (rfl : Int32.toInt x36 = x36.toInt) dX11_moves_70 (by decide) (fun c67 => ?_) (fun c67 => ?_)
                  · refine lv_iconst (v := 0) hx hb dX11_moves_77 (by decide) ?_
                    exact J78 0 _ _ _ hT.nil hS (lv_sub hl [1, 2, 3, 4, 5, 6, 0] rfl)
                  · refine lv_iconst (v := 1) hx hb dX11_moves_73 (by decide) ?_
                    refine lv_goto (tgt := 78) hx hb dX11_moves_74 (by decide) ?_
                    exact J78 1 _ _ _ hT.nil hS (lv_sub hl [1, 2, 3, 4, 5, 6, 0] rfl)
            exact L39 4294967297 x19 _ _ _ (z_X11_moves_19 x19.toInt (aF ar1 x1.toInt) (aL ar1 x1.toInt) t18 (xr x19)) (z_X11_moves_20 x19.toInt (aF ar1 x1.toInt) (aL ar1 x1.toInt) t18 (xr x19)) hT.nil hS (lv_sub hl [1, 2, 3, 4, 5, 0] rfl)
  exact L3 4294967297 0 _ _ _ (by decide) (by decide) hT.nil hS (lv_sub hl [1, 2, 3, 4, 0] rfl)

theorem z_X11_takeAsked_1 (a0 : Int) (h0 : (0 : Int) ≤ a0) (r0 : -2147483648 ≤ a0 ∧ a0 < 2147483648) : ¬ (2147483648 - a0 < ((0 : Nat) : Int)) := by omega
theorem z_X11_takeAsked_2 (a0 : Int) (a1 : Int) (a2 : Int) (a3 : Int) (a4 : Int) (a5 : Int) (a6 : Nat) (a7 : Nat) (h0 : 0 ≤ a5 ∧ a5 ≤ 2388 ∧ a5 ≤ ((a7 : Nat) : Int)) (h1 : a4 = -1 ∨ (0 ≤ a4 ∧ a4 < a5)) (h2 : 0 ≤ a0 ∧ a0 ≤ a5) (h3 : (0 : Int) ≤ a3) (h4 : 2147483648 - a3 < ((a6 + 1 : Nat) : Int)) (h5 : a0 ≤ a3) (h6 : a2 = a1 + a0 ∨ a1 + a0 < -2147483648 ∨ 2147483648 ≤ a1 + a0) (r0 : -2147483648 ≤ a0 ∧ a0 < 2147483648) (r1 : -2147483648 ≤ a1 ∧ a1 < 2147483648) (r2 : -2147483648 ≤ a2 ∧ a2 < 2147483648) (r3 : -2147483648 ≤ a3 ∧ a3 < 2147483648) (r4 : -2147483648 ≤ a4 ∧ a4 < 2147483648) (r5 : -2147483648 ≤ a5 ∧ a5 < 2147483648) : 0 ≤ a0 ∧ a0 ≤ 2400 := by first | (clear h1; omega) | omega
theorem z_X11_takeAsked_3 (a0 : Int) (a1 : Int) (a2 : Int) (a3 : Int) (a4 : Nat) (a5 : Nat) (h0 : 0 ≤ a3 ∧ a3 ≤ 2388 ∧ a3 ≤ ((a5 : Nat) : Int)) (h1 : a2 = -1 ∨ (0 ≤ a2 ∧ a2 < a3)) (h2 : 0 ≤ a0 ∧ a0 ≤ a3) (h3 : (0 : Int) ≤ a1) (h4 : 2147483648 - a1 < ((a4 + 1 : Nat) : Int)) (h5 : ¬ (a0 ≤ a1)) (r0 : -2147483648 ≤ a0 ∧ a0 < 2147483648) (r1 : -2147483648 ≤ a1 ∧ a1 < 2147483648) (r2 : -2147483648 ≤ a2 ∧ a2 < 2147483648) (r3 : -2147483648 ≤ a3 ∧ a3 < 2147483648) : 0 ≤ a1 ∧ a1 < ((2400 : Nat) : Int) := by first | (clear h1; omega) | omega
theorem z_X11_takeAsked_4 (a0 : Int) (a1 : Int) (a2 : Int) (a3 : Int) (a4 : Nat) (a5 : Nat) (h0 : 0 ≤ a3 ∧ a3 ≤ 2388 ∧ a3 ≤ ((a5 : Nat) : Int)) (h1 : a2 = -1 ∨ (0 ≤ a2 ∧ a2 < a3)) (h2 : 0 ≤ a0 ∧ a0 ≤ a3) (h3 : (0 : Int) ≤ a1) (h4 : 2147483648 - a1 < ((a4 + 1 : Nat) : Int)) (h5 : ¬ (a0 ≤ a1)) (r0 : -2147483648 ≤ a0 ∧ a0 < 2147483648) (r1 : -2147483648 ≤ a1 ∧ a1 < 2147483648) (r2 : -2147483648 ≤ a2 ∧ a2 < 2147483648) (r3 : -2147483648 ≤ a3 ∧ a3 < 2147483648) : 0 ≤ a1 ∧ a1 < ((a5 : Nat) : Int) := by first | (clear h1; omega) | omega
theorem z_X11_takeAsked_5 (a0 : Int) (a1 : Int) (a2 : Int) (h0 : a0 = a2) (h1 : 0 ≤ a0 ∧ a0 ≤ 11 ∧ 0 ≤ a1) (r0 : -2147483648 ≤ a0 ∧ a0 < 2147483648) : 0 ≤ a0 ∧ a0 ≤ 11 := by omega
theorem z_X11_takeAsked_6 (a0 : Int) (a1 : Int) (a2 : Int) (a3 : Int) (a4 : Nat) (a5 : Nat) (h0 : 0 ≤ a3 ∧ a3 ≤ 2388 ∧ a3 ≤ ((a5 : Nat) : Int)) (h1 : a2 = -1 ∨ (0 ≤ a2 ∧ a2 < a3)) (h2 : 0 ≤ a0 ∧ a0 ≤ a3) (h3 : (0 : Int) ≤ a1) (h4 : 2147483648 - a1 < ((a4 + 1 : Nat) : Int)) (h5 : ¬ (a0 ≤ a1)) (r0 : -2147483648 ≤ a0 ∧ a0 < 2147483648) (r1 : -2147483648 ≤ a1 ∧ a1 < 2147483648) (r2 : -2147483648 ≤ a2 ∧ a2 < 2147483648) (r3 : -2147483648 ≤ a3 ∧ a3 < 2147483648) : 0 ≤ a1 ∧ a1 < ((2400 : Nat) : Int) := by first | (clear h1; omega) | omega
theorem z_X11_takeAsked_7 (a0 : Int) (a1 : Int) (a2 : Int) (a3 : Int) (a4 : Nat) (a5 : Nat) (h0 : 0 ≤ a3 ∧ a3 ≤ 2388 ∧ a3 ≤ ((a5 : Nat) : Int)) (h1 : a2 = -1 ∨ (0 ≤ a2 ∧ a2 < a3)) (h2 : 0 ≤ a0 ∧ a0 ≤ a3) (h3 : (0 : Int) ≤ a1) (h4 : 2147483648 - a1 < ((a4 + 1 : Nat) : Int)) (h5 : ¬ (a0 ≤ a1)) (r0 : -2147483648 ≤ a0 ∧ a0 < 2147483648) (r1 : -2147483648 ≤ a1 ∧ a1 < 2147483648) (r2 : -2147483648 ≤ a2 ∧ a2 < 2147483648) (r3 : -2147483648 ≤ a3 ∧ a3 < 2147483648) : 0 ≤ a1 ∧ a1 < ((2400 : Nat) : Int) := by first | (clear h1; omega) | omega
theorem z_X11_takeAsked_8 (a0 : Int) (a1 : Int) (a2 : Int) (a3 : Int) (a4 : Nat) (a5 : Nat) (h0 : 0 ≤ a3 ∧ a3 ≤ 2388 ∧ a3 ≤ ((a5 : Nat) : Int)) (h1 : a2 = -1 ∨ (0 ≤ a2 ∧ a2 < a3)) (h2 : 0 ≤ a0 ∧ a0 ≤ a3) (h3 : (0 : Int) ≤ a1) (h4 : 2147483648 - a1 < ((a4 + 1 : Nat) : Int)) (h5 : ¬ (a0 ≤ a1)) (r0 : -2147483648 ≤ a0 ∧ a0 < 2147483648) (r1 : -2147483648 ≤ a1 ∧ a1 < 2147483648) (r2 : -2147483648 ≤ a2 ∧ a2 < 2147483648) (r3 : -2147483648 ≤ a3 ∧ a3 < 2147483648) : 0 ≤ a1 ∧ a1 < ((a5 : Nat) : Int) := by first | (clear h1; omega) | omega
theorem z_X11_takeAsked_9 (a0 : Int) (a1 : Int) (a2 : Int) (a3 : Int) (a4 : Nat) (a5 : Nat) (h0 : 0 ≤ a3 ∧ a3 ≤ 2388 ∧ a3 ≤ ((a5 : Nat) : Int)) (h1 : a2 = -1 ∨ (0 ≤ a2 ∧ a2 < a3)) (h2 : 0 ≤ a0 ∧ a0 ≤ a3) (h3 : (0 : Int) ≤ a1) (h4 : 2147483648 - a1 < ((a4 + 1 : Nat) : Int)) (h5 : ¬ (a0 ≤ a1)) (r0 : -2147483648 ≤ a0 ∧ a0 < 2147483648) (r1 : -2147483648 ≤ a1 ∧ a1 < 2147483648) (r2 : -2147483648 ≤ a2 ∧ a2 < 2147483648) (r3 : -2147483648 ≤ a3 ∧ a3 < 2147483648) : 0 ≤ a1 ∧ a1 < ((2400 : Nat) : Int) := by first | (clear h1; omega) | omega
theorem z_X11_takeAsked_10 (a0 : Int) (a1 : Int) (a2 : Int) (a3 : Int) (a4 : Int) (a5 : Nat) (a6 : Nat) (h0 : 0 ≤ a4 ∧ a4 ≤ 2388 ∧ a4 ≤ ((a6 : Nat) : Int)) (h1 : a3 = -1 ∨ (0 ≤ a3 ∧ a3 < a4)) (h2 : 0 ≤ a0 ∧ a0 ≤ a4) (h3 : (0 : Int) ≤ a2) (h4 : 2147483648 - a2 < ((a5 + 1 : Nat) : Int)) (h5 : ¬ (a0 ≤ a2)) (h6 : a1 = a2 + 1 ∨ a2 + 1 < -2147483648 ∨ 2147483648 ≤ a2 + 1) (r0 : -2147483648 ≤ a0 ∧ a0 < 2147483648) (r1 : -2147483648 ≤ a1 ∧ a1 < 2147483648) (r2 : -2147483648 ≤ a2 ∧ a2 < 2147483648) (r3 : -2147483648 ≤ a3 ∧ a3 < 2147483648) (r4 : -2147483648 ≤ a4 ∧ a4 < 2147483648) : (0 : Int) ≤ a1 := by first | (clear h1; omega) | omega
theorem z_X11_takeAsked_11 (a0 : Int) (a1 : Int) (a2 : Int) (a3 : Int) (a4 : Int) (a5 : Nat) (a6 : Nat) (h0 : 0 ≤ a4 ∧ a4 ≤ 2388 ∧ a4 ≤ ((a6 : Nat) : Int)) (h1 : a3 = -1 ∨ (0 ≤ a3 ∧ a3 < a4)) (h2 : 0 ≤ a0 ∧ a0 ≤ a4) (h3 : (0 : Int) ≤ a2) (h4 : 2147483648 - a2 < ((a5 + 1 : Nat) : Int)) (h5 : ¬ (a0 ≤ a2)) (h6 : a1 = a2 + 1 ∨ a2 + 1 < -2147483648 ∨ 2147483648 ≤ a2 + 1) (r0 : -2147483648 ≤ a0 ∧ a0 < 2147483648) (r1 : -2147483648 ≤ a1 ∧ a1 < 2147483648) (r2 : -2147483648 ≤ a2 ∧ a2 < 2147483648) (r3 : -2147483648 ≤ a3 ∧ a3 < 2147483648) (r4 : -2147483648 ≤ a4 ∧ a4 < 2147483648) : 2147483648 - a1 < ((a5 : Nat) : Int) := by first | (clear h1; omega) | omega
theorem z_X11_takeAsked_12 (a0 : Int) (a1 : Int) (a2 : Int) (a3 : Nat) (h0 : 0 ≤ a2 ∧ a2 ≤ 2388 ∧ a2 ≤ ((a3 : Nat) : Int)) (h1 : a1 = -1 ∨ (0 ≤ a1 ∧ a1 < a2)) (h2 : a1 ≠ (-1 : Int)) (h3 : a0 = a1 + (1 : Int) ∨ a1 + (1 : Int) < -2147483648 ∨ 2147483648 ≤ a1 + (1 : Int)) (r0 : -2147483648 ≤ a0 ∧ a0 < 2147483648) (r1 : -2147483648 ≤ a1 ∧ a1 < 2147483648) (r2 : -2147483648 ≤ a2 ∧ a2 < 2147483648) : 0 ≤ a0 ∧ a0 ≤ a2 := by first | (clear h2; omega) | omega
theorem z_X11_takeAsked_13 (a0 : Int) (a1 : Int) (a2 : Nat) (h0 : 0 ≤ a1 ∧ a1 ≤ 2388 ∧ a1 ≤ ((a2 : Nat) : Int)) (h1 : a0 = -1 ∨ (0 ≤ a0 ∧ a0 < a1)) (h2 : ¬ (a0 ≠ (-1 : Int))) (r0 : -2147483648 ≤ a0 ∧ a0 < 2147483648) (r1 : -2147483648 ≤ a1 ∧ a1 < 2147483648) : 0 ≤ a1 ∧ a1 ≤ a1 := by first | (clear h2; omega) | omega
abbrev rm_X11_takeAsked : Room := { frames := 0, cells := 0, slots := 0, locals := 0 }
set_option maxHeartbeats 4000000 in
set_option maxRecDepth 100000 in
theorem c_X11_takeAsked (l : Launch) (E : XE) (K : Nat → Nat) (F : Nat → Nat → Nat) (tl z0 z1 z2 z3 z4 z5 z6 z7 z8 z9 z10 z11 z12 z13 z14 z15 z16 z17 z18 z19 z20 : Int32) (ar0 ar1 ar2 ar3 ar4 ar5 ar6 ar7 ar8 ar9 ar10 : Nat → Int32) (a : Nat) (ha : K a = 13) (hR : RV ar1) (e0 : 0 ≤ z4.toInt ∧ z4.toInt ≤ 2388 ∧ z4.toInt ≤ (((fV ar1 ar3 ar4) : Nat) : Int)) (e1 : z15.toInt = -1 ∨ (0 ≤ z15.toInt ∧ z15.toInt < z4.toInt)) : Met l yX11_takeAsked (xw yX11_takeAsked cX11_takeAsked 2 none) rm_X11_takeAsked (va_Pc [.ref a] (XP E K F (tl, [z0, z1, z2, z3, z4, z5, z6, z7, z8, z9, z10, z11, z12, z13, z14, z15, z16, z17, z18, z19, z20], [ar0, ar1, ar2, ar3, ar4, ar5, ar6, ar7, ar8, ar9, ar10]))) (XQv E (fun (u : Int32 × Int32) => (0 ≤ u.1.toInt ∧ u.1.toInt ≤ 2400)) (fun u H => TW E K F (tl, [z0, z1, z2, z3, z4, z5, z6, z7, z8, z9, z10, z11, u.1, u.2, z14, z15, z16, z17, z18, z19, z20], [ar0, ar1, ar2, ar3, ar4, ar5, ar6, ar7, ar8, ar9, ar10]) [] H)) 0 0 (xA E) := by
  refine x_enter (by decide) (Nat.le_of_ble_eq_true rfl) ?_
  intro p e s m args below meth c Q S hr hlk hnm hQ hP ls hl
  obtain ⟨hz, hK, hT⟩ := hP
  obtain ⟨hx, hb, -, -, -⟩ := id S
  obtain ⟨H, hT, hS, hgo⟩ : ∃ H : Heap, TW E K F (tl, [z0, z1, z2, z3, z4, z5, z6, z7, z8, z9, z10, z11, z12, z13, z14, z15, z16, z17, z18, z19, z20], [ar0, ar1, ar2, ar3, ar4, ar5, ar6, ar7, ar8, ar9, ar10]) [] H ∧ va_S (xA E) s.heap H [] ∧ H = s.heap := ⟨_, hT, va_S.rf, rfl⟩
  rw [← hgo]
  have hl : lv_has ls 2 [(0, .ref a)] := hl
  refine lv_aload_n hx hb dX11_takeAsked_0 rfl (lv_at hl 0 rfl) ?_
  refine lv_aload_n hx hb dX11_takeAsked_1 rfl (lv_at hl 0 rfl) ?_
  refine gX11_46 S hK hT ha kf_X11_322 dX11_takeAsked_2 (v := z15) rfl ?_
  refine lv_iconst (v := (-1)) hx hb dX11_takeAsked_5 (by decide) ?_
  have J22 : ∀ (x1 : Int32) (H : Heap) (locs : List Loc) (ls : Array Slot), 0 ≤ x1.toInt ∧ x1.toInt ≤ z4.toInt → TW E K F (tl, [z0, z1, z2, z3, z4, z5, z6, z7, z8, z9, z10, z11, z12, z13, z14, z15, z16, z17, z18, z19, z20], [ar0, ar1, ar2, ar3, ar4, ar5, ar6, ar7, ar8, ar9, ar10]) [] H → va_S (xA E) s.heap H locs → lv_has ls 2 [(0, .ref a)] → W p l e rm_X11_takeAsked s m args below meth c H locs 0 0 Q (F0 m 22 ls [.int x1, .ref a]) := by
    intro x1 H locs ls hf2 hT hS hl
    refine pX11_43 (kq := []) (v := x1) S hK hT hS ha kf_X11_340 (Nat.le_of_ble_eq_true rfl) dX11_takeAsked_22 (fun _ h => by cases h) (fun H locs hT hS => ?_)
    have hT : TW E K F (tl, [z0, z1, z2, z3, z4, z5, z6, z7, z8, z9, z10, z11, x1, z13, z14, z15, z16, z17, z18, z19, z20], [ar0, ar1, ar2, ar3, ar4, ar5, ar6, ar7, ar8, ar9, ar10]) [] H := hT
    refine lv_aload_n hx hb dX11_takeAsked_25 rfl (lv_at hl 0 rfl) ?_
    refine lv_aload_n hx hb dX11_takeAsked_26 rfl (lv_at hl 0 rfl) ?_
    refine gX11_46 S hK hT ha kf_X11_322 dX11_takeAsked_27 (v := z15) rfl ?_
    refine pX11_44 (kq := []) (v := z15) S hK hT hS ha kf_X11_115 (Nat.le_of_ble_eq_true rfl) dX11_takeAsked_30 (fun _ h => by cases h) (fun H locs hT hS => ?_)
    have hT : TW E K F (tl, [z0, z1, z2, z3, z4, z5, z6, z7, z8, z9, z10, z11, x1, z15, z14, z15, z16, z17, z18, z19, z20], [ar0, ar1, ar2, ar3, ar4, ar5, ar6, ar7, ar8, ar9, ar10]) [] H := hT
    refine lv_iconst (v := 0) hx hb dX11_takeAsked_33 (by decide) ?_
    refine lv_istore_n (lv' := [(1, .int 0), (0, .ref a)]) hx hb dX11_takeAsked_34 rfl hl (by decide) rfl (fun ls hl => ?_)
    have L35 : ∀ (N4 : Nat) (x3 : Int32) (H : Heap) (locs : List Loc) (ls : Array Slot), (0 : Int) ≤ x3.toInt → 2147483648 - x3.toInt < ((N4 : Nat) : Int) → TW E K F (tl, [z0, z1, z2, z3, z4, z5, z6, z7, z8, z9, z10, z11, x1, z15, z14, z15, z16, z17, z18, z19, z20], [ar0, ar1, ar2, ar3, ar4, ar5, ar6, ar7, ar8, ar9, ar10]) [] H → va_S (xA E) s.heap H locs → lv_has ls 2 [(0, .ref a), (1, .int x3)] → W p l e rm_X11_takeAsked s m args below meth c H locs 0 0 Q (F0 m 35 ls []) := by
      intro N4
      induction N4 with
      | zero =>
        intro x3 H locs ls hf5 hm6
        exact absurd hm6 (z_X11_takeAsked_1 x3.toInt hf5 (xr x3))
      | succ N4 ih7 =>
        intro x3 H locs ls hf5 hm6 hT hS hl
        refine lv_iload_n hx hb dX11_takeAsked_35 rfl (lv_at hl 1 rfl) ?_
        refine lv_aload_n hx hb dX11_takeAsked_36 rfl (lv_at hl 0 rfl) ?_
        refine gX11_43 S hK hT ha kf_X11_340 dX11_takeAsked_37 (v := x1) rfl ?_
        refine xi_cge (tgt := 73) hx hb (rfl : Int32.toInt x3 = x3.toInt) (rfl : Int32.toInt x1 = x1.toInt) dX11_takeAsked_40 (by decide) (fun c8 => ?_) (fun c8 => ?_)
        · refine lv_aload_n hx hb dX11_takeAsked_73 rfl (lv_at hl 0 rfl) ?_
          refine gX11_9 S hK hT ha kf_X11_30 dX11_takeAsked_74 (fun hk9 => ?_)
          refine lv_iconst (v := 0) hx hb dX11_takeAsked_77 (by decide) ?_
          refine lv_dup2_11 hx hb dX11_takeAsked_78 rfl rfl ?_
          refine al_0 S hK hT hk9 ar_36 (by decide) (by decide) dX11_takeAsked_79 (fun x10 o11 => ?_)
          refine lv_aload_n hx hb dX11_takeAsked_80 rfl (lv_at hl 0 rfl) ?_
          refine gX11_43 S hK hT ha kf_X11_340 dX11_takeAsked_81 (v := x1) rfl ?_
          refine xi_iadd hx hb (rfl : Int32.toInt x10 = x10.toInt) (rfl : Int32.toInt x1 = x1.toInt) dX11_takeAsked_84 (fun x12 t13 => ?_)
          refine as_0 S hK hT hS hk9 ar_36 aw_36 (by decide) (by decide) dX11_takeAsked_85 (fun H locs hT hS => ?_)
          exact x_rv hx hb hr hlk hQ (Nat.le_of_ble_eq_true rfl) (Nat.le_of_ble_eq_true rfl) hS dX11_takeAsked_86 (x1, z15) (z_X11_takeAsked_2 x1.toInt x10.toInt x12.toInt x3.toInt z15.toInt z4.toInt N4 (fV ar1 ar3 ar4) e0 e1 hf2 hf5 hm6 c8 t13 (xr x1) (xr x10) (xr x12) (xr x3) (xr z15) (xr z4)) hT.nil
        · refine lv_aload_n hx hb dX11_takeAsked_43 rfl (lv_at hl 0 rfl) ?_
          refine gX11_41 S hK hT ha kf_X11_109 dX11_takeAsked_44 (fun hk14 => ?_)
          refine lv_iload_n hx hb dX11_takeAsked_47 rfl (lv_at hl 1 rfl) ?_
          refine lv_aload_n hx hb dX11_takeAsked_48 rfl (lv_at hl 0 rfl) ?_
          refine gX11_17 S hK hT ha kf_X11_51 dX11_takeAsked_49 (fun hk15 => ?_)
          refine lv_iload_n hx hb dX11_takeAsked_52 rfl (lv_at hl 1 rfl) ?_
          refine tld_0 S hK hT hk15 (at_43 (f := ar3) rfl) (by decide) (z_X11_takeAsked_3 x1.toInt x3.toInt z15.toInt z4.toInt N4 (fV ar1 ar3 ar4) e0 e1 hf2 hf5 hm6 c8 (xr x1) (xr x3) (xr z15) (xr z4)) dX11_takeAsked_53 (fun x16 w17 o18 => ?_)
          have v20 : 0 ≤ x16.toInt ∧ x16.toInt ≤ 11 ∧ 0 ≤ (aI ar1 (10 * x16.toInt + (0 : Int))) := fV_rule (f4 := ar4) w17 (z_X11_takeAsked_4 x1.toInt x3.toInt z15.toInt z4.toInt N4 (fV ar1 ar3 ar4) e0 e1 hf2 hf5 hm6 c8 (xr x1) (xr x3) (xr z15) (xr z4))
          have v21 : (-1 ≤ (aI ar1 (10 * x16.toInt + (0 : Int))) ∧ (aI ar1 (10 * x16.toInt + (0 : Int))) ≤ 5) ∧ (0 ≤ (aI ar1 (10 * x16.toInt + (1 : Int))) ∧ (aI ar1 (10 * x16.toInt + (1 : Int))) ≤ 2) ∧ (0 ≤ (aI ar1 (10 * x16.toInt + (2 : Int))) ∧ (aI ar1 (10 * x16.toInt + (2 : Int))) ≤ 2) ∧ (-1 ≤ (aI ar1 (10 * x16.toInt + (3 : Int))) ∧ (aI ar1 (10 * x16.toInt + (3 : Int))) ≤ 2) ∧ ((aI ar1 (10 * x16.toInt + (0 : Int))) = 1 ∨ (aI ar1 (10 * x16.toInt + (0 : Int))) = 3 ∨ (aI ar1 (10 * x16.toInt + (0 : Int))) = 4 → 0 ≤ (aI ar1 (10 * x16.toInt + (3 : Int)))) := RV.row hR (z_X11_takeAsked_5 x16.toInt (aI ar1 (10 * x16.toInt + (0 : Int))) (aI ar3 x3.toInt) w17 v20 (xr x16))
          refine as_0 S hK hT hS hk14 ar_53 aw_53 (by decide) (z_X11_takeAsked_6 x1.toInt x3.toInt z15.toInt z4.toInt N4 (fV ar1 ar3 ar4) e0 e1 hf2 hf5 hm6 c8 (xr x1) (xr x3) (xr z15) (xr z4)) dX11_takeAsked_54 (fun H locs hT hS => ?_)
          refine lv_aload_n hx hb dX11_takeAsked_55 rfl (lv_at hl 0 rfl) ?_
          refine gX11_42 S hK hT ha kf_X11_112 dX11_takeAsked_56 (fun hk22 => ?_)
          refine lv_iload_n hx hb dX11_takeAsked_59 rfl (lv_at hl 1 rfl) ?_
          refine lv_aload_n hx hb dX11_takeAsked_60 rfl (lv_at hl 0 rfl) ?_
          refine gX11_18 S hK hT ha kf_X11_54 dX11_takeAsked_61 (fun hk23 => ?_)
          refine lv_iload_n hx hb dX11_takeAsked_64 rfl (lv_at hl 1 rfl) ?_
          refine tld_0 S hK hT hk23 (at_44 (f := ar4) rfl) (by decide) (z_X11_takeAsked_7 x1.toInt x3.toInt z15.toInt z4.toInt N4 (fV ar1 ar3 ar4) e0 e1 hf2 hf5 hm6 c8 (xr x1) (xr x3) (xr z15) (xr z4)) dX11_takeAsked_65 (fun x24 w25 o26 => ?_)
          have v28 : -99 ≤ x24.toInt ∧ x24.toInt ≤ 99 ∧ (aF ar1 x16.toInt) ≤ x24.toInt ∧ x24.toInt ≤ (aL ar1 x16.toInt) := fV_sub w17 w25 (z_X11_takeAsked_8 x1.toInt x3.toInt z15.toInt z4.toInt N4 (fV ar1 ar3 ar4) e0 e1 hf2 hf5 hm6 c8 (xr x1) (xr x3) (xr z15) (xr z4))
          refine as_0 S hK hT hS hk22 ar_54 aw_54 (by decide) (z_X11_takeAsked_9 x1.toInt x3.toInt z15.toInt z4.toInt N4 (fV ar1 ar3 ar4) e0 e1 hf2 hf5 hm6 c8 (xr x1) (xr x3) (xr z15) (xr z4)) dX11_takeAsked_66 (fun H locs hT hS => ?_)
          refine xi_iinc (n := 1) (lv' := fun z9 => [(1, .int z9), (0, .ref a)]) (k := 1) hx hb (rfl : Int32.toInt x3 = x3.toInt) (by decide) dX11_takeAsked_67 hl rfl (by decide) (fun _ => rfl) (fun x29 ls t30 hl => ?_)
          have hl : lv_has ls 2 [(1, .int x29), (0, .ref a)] := hl
          refine lv_goto (tgt := 35) hx hb dX11_takeAsked_70 (by decide) ?_
          exact ih7 x29 _ _ _ (z_X11_takeAsked_10 x1.toInt x29.toInt x3.toInt z15.toInt z4.toInt N4 (fV ar1 ar3 ar4) e0 e1 hf2 hf5 hm6 c8 t30 (xr x1) (xr x29) (xr x3) (xr z15) (xr z4)) (z_X11_takeAsked_11 x1.toInt x29.toInt x3.toInt z15.toInt z4.toInt N4 (fV ar1 ar3 ar4) e0 e1 hf2 hf5 hm6 c8 t30 (xr x1) (xr x29) (xr x3) (xr z15) (xr z4)) hT.nil hS (lv_sub hl [1, 0] rfl)
    exact L35 4294967297 0 _ _ _ (by decide) (by decide) hT.nil hS (lv_sub hl [1, 0] rfl)
  refine xi_cne (tgt := 16) hx hb (rfl : Int32.toInt z15 = z15.toInt) ((by decide) : Int32.toInt (-1) = (-1 : Int)) dX11_takeAsked_6 (by decide) (fun c31 => ?_) (fun c31 => ?_)
  · refine lv_aload_n hx hb dX11_takeAsked_16 rfl (lv_at hl 0 rfl) ?_
    refine gX11_46 S hK hT ha kf_X11_322 dX11_takeAsked_17 (v := z15) rfl ?_
    refine lv_iconst (v := 1) hx hb dX11_takeAsked_20 (by decide) ?_
    refine xi_iadd hx hb (rfl : Int32.toInt z15 = z15.toInt) ((by decide) : Int32.toInt 1 = (1 : Int)) dX11_takeAsked_21 (fun x32 t33 => ?_)
    exact J22 x32 _ _ _ (z_X11_takeAsked_12 x32.toInt z15.toInt z4.toInt (fV ar1 ar3 ar4) e0 e1 c31 t33 (xr x32) (xr z15) (xr z4)) hT.nil hS (lv_sub hl [0] rfl)
  · refine lv_aload_n hx hb dX11_takeAsked_9 rfl (lv_at hl 0 rfl) ?_
    refine gX11_19 S hK hT ha kf_X11_203 dX11_takeAsked_10 (v := z4) rfl ?_
    refine lv_goto (tgt := 22) hx hb dX11_takeAsked_13 (by decide) ?_
    exact J22 z4 _ _ _ (z_X11_takeAsked_13 z15.toInt z4.toInt (fV ar1 ar3 ar4) e0 e1 c31 (xr z15) (xr z4)) hT.nil hS (lv_sub hl [0] rfl)
