theorem z_X11_all_1 (a0 : Int) (h0 : (0 : Int) ≤ a0) (r0 : -2147483648 ≤ a0 ∧ a0 < 2147483648) : ¬ (2147483648 - a0 < ((0 : Nat) : Int)) := by omega
theorem z_X11_all_2 (a0 : Int) (a1 : Int) (a2 : Nat) (a3 : Nat) (h0 : 0 ≤ a0 ∧ a0 ≤ 12 ∧ a0 ≤ ((a3 : Nat) : Int)) (h1 : (0 : Int) ≤ a1) (h2 : 2147483648 - a1 < ((a2 + 1 : Nat) : Int)) (h3 : ¬ (a0 ≤ a1)) (r0 : -2147483648 ≤ a0 ∧ a0 < 2147483648) (r1 : -2147483648 ≤ a1 ∧ a1 < 2147483648) : 0 ≤ a1 ∧ a1 < ((12 : Nat) : Int) := by omega
theorem z_X11_all_3 (a0 : Int) (a1 : Int) (a2 : Nat) (a3 : Nat) (h0 : 0 ≤ a0 ∧ a0 ≤ 12 ∧ a0 ≤ ((a3 : Nat) : Int)) (h1 : (0 : Int) ≤ a1) (h2 : 2147483648 - a1 < ((a2 + 1 : Nat) : Int)) (h3 : ¬ (a0 ≤ a1)) (r0 : -2147483648 ≤ a0 ∧ a0 < 2147483648) (r1 : -2147483648 ≤ a1 ∧ a1 < 2147483648) : 0 ≤ a1 ∧ a1 < ((a3 : Nat) : Int) := by omega
theorem z_X11_all_4 (a0 : Int) (a1 : Int) (a2 : Int) (h0 : a0 = a2) (h1 : 0 ≤ a0 ∧ a0 ≤ 11 ∧ 0 ≤ a1) (r0 : -2147483648 ≤ a0 ∧ a0 < 2147483648) : 0 ≤ a0 ∧ a0 ≤ 11 := by omega
theorem z_X11_all_5 (a0 : Int) (a1 : Int) (a2 : Int) (a3 : Int) (h0 : a0 = a3) (h1 : 0 ≤ a0 ∧ a0 ≤ 11 ∧ 0 ≤ a1) (h2 : -1 ≤ a1 ∧ a1 ≤ 5) (h3 : -1 ≤ a2 ∧ a2 ≤ 2) (h4 : a1 = 1 ∨ a1 = 3 ∨ a1 = 4 → 0 ≤ a2) (r0 : -2147483648 ≤ a0 ∧ a0 < 2147483648) : 0 ≤ a0 ∧ a0 ≤ 11 := by first | (clear h4; omega) | omega
theorem z_X11_all_6 (a0 : Int) (a1 : Int) (a2 : Int) (a3 : Int) (a4 : Int) (a5 : Int) (h0 : a2 ≤ a1 ∧ a1 ≤ a4 + 1) (h1 : a3 = a2 ∧ a5 = a4) (h2 : a0 = a3 ∧ -99 ≤ a3 ∧ a3 ≤ 0 ∧ 29 ≤ a5 ∧ a5 ≤ 99 ∧ a5 - a3 ≤ 198) (r0 : -2147483648 ≤ a0 ∧ a0 < 2147483648) (r1 : -2147483648 ≤ a1 ∧ a1 < 2147483648) : ¬ (2147483648 - a1 < ((0 : Nat) : Int)) := by omega
theorem z_X11_all_7 (a0 : Int) (a1 : Int) (a2 : Nat) (a3 : Nat) (h0 : 0 ≤ a0 ∧ a0 ≤ 12 ∧ a0 ≤ ((a3 : Nat) : Int)) (h1 : (0 : Int) ≤ a1) (h2 : 2147483648 - a1 < ((a2 + 1 : Nat) : Int)) (h3 : ¬ (a0 ≤ a1)) (r0 : -2147483648 ≤ a0 ∧ a0 < 2147483648) (r1 : -2147483648 ≤ a1 ∧ a1 < 2147483648) : 0 ≤ a1 ∧ a1 < ((12 : Nat) : Int) := by omega
theorem z_X11_all_8 (a0 : Int) (a1 : Int) (a2 : Nat) (a3 : Nat) (h0 : 0 ≤ a0 ∧ a0 ≤ 12 ∧ a0 ≤ ((a3 : Nat) : Int)) (h1 : (0 : Int) ≤ a1) (h2 : 2147483648 - a1 < ((a2 + 1 : Nat) : Int)) (h3 : ¬ (a0 ≤ a1)) (r0 : -2147483648 ≤ a0 ∧ a0 < 2147483648) (r1 : -2147483648 ≤ a1 ∧ a1 < 2147483648) : 0 ≤ a1 ∧ a1 < ((a3 : Nat) : Int) := by omega
theorem z_X11_all_9 (a0 : Int) (a1 : Int) (a2 : Int) (a3 : Int) (a4 : Int) (a5 : Int) (h0 : a0 = a5) (h1 : 0 ≤ a0 ∧ a0 ≤ 11 ∧ 0 ≤ a2) (h2 : -1 ≤ a2 ∧ a2 ≤ 5) (h3 : -1 ≤ a3 ∧ a3 ≤ 2) (h4 : a2 = 1 ∨ a2 = 3 ∨ a2 = 4 → 0 ≤ a3) (h5 : a1 = a5) (h6 : 0 ≤ a1 ∧ a1 ≤ 11 ∧ 0 ≤ a4) (r0 : -2147483648 ≤ a0 ∧ a0 < 2147483648) (r1 : -2147483648 ≤ a1 ∧ a1 < 2147483648) : 0 ≤ a1 ∧ a1 ≤ 11 := by first | (clear h4; omega) | omega
theorem z_X11_all_10 (a0 : Int) (a1 : Int) (a2 : Int) (a3 : Int) (a4 : Int) (a5 : Int) (a6 : Int) (h0 : a0 = a6) (h1 : 0 ≤ a0 ∧ a0 ≤ 11 ∧ 0 ≤ a2) (h2 : -1 ≤ a2 ∧ a2 ≤ 5) (h3 : -1 ≤ a3 ∧ a3 ≤ 2) (h4 : a2 = 1 ∨ a2 = 3 ∨ a2 = 4 → 0 ≤ a3) (h5 : a1 = a6) (h6 : 0 ≤ a1 ∧ a1 ≤ 11 ∧ 0 ≤ a4) (h7 : -1 ≤ a4 ∧ a4 ≤ 5) (h8 : -1 ≤ a5 ∧ a5 ≤ 2) (h9 : a4 = 1 ∨ a4 = 3 ∨ a4 = 4 → 0 ≤ a5) (r0 : -2147483648 ≤ a0 ∧ a0 < 2147483648) (r1 : -2147483648 ≤ a1 ∧ a1 < 2147483648) : 0 ≤ a1 ∧ a1 ≤ 11 := by first | (clear h4 h9; omega) | omega
theorem z_X11_all_11 (a0 : Int) (a1 : Int) (a2 : Int) (a3 : Nat) (a4 : Nat) (h0 : 0 ≤ a0 ∧ a0 ≤ 12 ∧ a0 ≤ ((a4 : Nat) : Int)) (h1 : (0 : Int) ≤ a1) (h2 : 2147483648 - a1 < ((a3 + 1 : Nat) : Int)) (h3 : ¬ (a0 ≤ a1)) (h4 : a2 = a1 + 1 ∨ a1 + 1 < -2147483648 ∨ 2147483648 ≤ a1 + 1) (r0 : -2147483648 ≤ a0 ∧ a0 < 2147483648) (r1 : -2147483648 ≤ a1 ∧ a1 < 2147483648) (r2 : -2147483648 ≤ a2 ∧ a2 < 2147483648) : (0 : Int) ≤ a2 := by omega
theorem z_X11_all_12 (a0 : Int) (a1 : Int) (a2 : Int) (a3 : Nat) (a4 : Nat) (h0 : 0 ≤ a0 ∧ a0 ≤ 12 ∧ a0 ≤ ((a4 : Nat) : Int)) (h1 : (0 : Int) ≤ a1) (h2 : 2147483648 - a1 < ((a3 + 1 : Nat) : Int)) (h3 : ¬ (a0 ≤ a1)) (h4 : a2 = a1 + 1 ∨ a1 + 1 < -2147483648 ∨ 2147483648 ≤ a1 + 1) (r0 : -2147483648 ≤ a0 ∧ a0 < 2147483648) (r1 : -2147483648 ≤ a1 ∧ a1 < 2147483648) (r2 : -2147483648 ≤ a2 ∧ a2 < 2147483648) : 2147483648 - a2 < ((a3 : Nat) : Int) := by omega
theorem z_X11_all_13 (a0 : Int) (a1 : Int) (a2 : Nat) (a3 : Nat) (h0 : 0 ≤ a0 ∧ a0 ≤ 12 ∧ a0 ≤ ((a3 : Nat) : Int)) (h1 : (0 : Int) ≤ a1) (h2 : 2147483648 - a1 < ((a2 + 1 : Nat) : Int)) (h3 : ¬ (a0 ≤ a1)) (r0 : -2147483648 ≤ a0 ∧ a0 < 2147483648) (r1 : -2147483648 ≤ a1 ∧ a1 < 2147483648) : 0 ≤ a1 ∧ a1 < ((12 : Nat) : Int) := by omega
theorem z_X11_all_14 (a0 : Int) (a1 : Int) (a2 : Nat) (a3 : Nat) (h0 : 0 ≤ a0 ∧ a0 ≤ 12 ∧ a0 ≤ ((a3 : Nat) : Int)) (h1 : (0 : Int) ≤ a1) (h2 : 2147483648 - a1 < ((a2 + 1 : Nat) : Int)) (h3 : ¬ (a0 ≤ a1)) (r0 : -2147483648 ≤ a0 ∧ a0 < 2147483648) (r1 : -2147483648 ≤ a1 ∧ a1 < 2147483648) : 0 ≤ a1 ∧ a1 < ((a3 : Nat) : Int) := by omega
theorem z_X11_all_15 (a0 : Int) (a1 : Int) (a2 : Int) (a3 : Int) (a4 : Int) (a5 : Int) (a6 : Int) (a7 : Int) (a8 : Int) (h0 : a0 = a8) (h1 : 0 ≤ a0 ∧ a0 ≤ 11 ∧ 0 ≤ a3) (h2 : -1 ≤ a3 ∧ a3 ≤ 5) (h3 : -1 ≤ a4 ∧ a4 ≤ 2) (h4 : a3 = 1 ∨ a3 = 3 ∨ a3 = 4 → 0 ≤ a4) (h5 : a1 = a8) (h6 : 0 ≤ a1 ∧ a1 ≤ 11 ∧ 0 ≤ a5) (h7 : -1 ≤ a5 ∧ a5 ≤ 5) (h8 : -1 ≤ a6 ∧ a6 ≤ 2) (h9 : a5 = 1 ∨ a5 = 3 ∨ a5 = 4 → 0 ≤ a6) (h10 : a2 = a8) (h11 : 0 ≤ a2 ∧ a2 ≤ 11 ∧ 0 ≤ a7) (r0 : -2147483648 ≤ a0 ∧ a0 < 2147483648) (r1 : -2147483648 ≤ a1 ∧ a1 < 2147483648) (r2 : -2147483648 ≤ a2 ∧ a2 < 2147483648) : 0 ≤ a2 ∧ a2 ≤ 11 := by first | (clear h4 h9; omega) | omega
theorem z_X11_all_16 (a0 : Int) (a1 : Int) (a2 : Int) (a3 : Int) (a4 : Int) (a5 : Int) (a6 : Int) (a7 : Int) (a8 : Int) (a9 : Int) (h0 : a0 = a9) (h1 : 0 ≤ a0 ∧ a0 ≤ 11 ∧ 0 ≤ a3) (h2 : -1 ≤ a3 ∧ a3 ≤ 5) (h3 : -1 ≤ a4 ∧ a4 ≤ 2) (h4 : a3 = 1 ∨ a3 = 3 ∨ a3 = 4 → 0 ≤ a4) (h5 : a1 = a9) (h6 : 0 ≤ a1 ∧ a1 ≤ 11 ∧ 0 ≤ a5) (h7 : -1 ≤ a5 ∧ a5 ≤ 5) (h8 : -1 ≤ a6 ∧ a6 ≤ 2) (h9 : a5 = 1 ∨ a5 = 3 ∨ a5 = 4 → 0 ≤ a6) (h10 : a2 = a9) (h11 : 0 ≤ a2 ∧ a2 ≤ 11 ∧ 0 ≤ a7) (h12 : -1 ≤ a7 ∧ a7 ≤ 5) (h13 : -1 ≤ a8 ∧ a8 ≤ 2) (h14 : a7 = 1 ∨ a7 = 3 ∨ a7 = 4 → 0 ≤ a8) (r0 : -2147483648 ≤ a0 ∧ a0 < 2147483648) (r1 : -2147483648 ≤ a1 ∧ a1 < 2147483648) (r2 : -2147483648 ≤ a2 ∧ a2 < 2147483648) : 0 ≤ a2 ∧ a2 ≤ 11 := by first | (clear h4 h9 h14; omega) | omega
theorem z_X11_all_17 (a0 : Int) (a1 : Int) (a2 : Int) (a3 : Int) (a4 : Int) (a5 : Int) (a6 : Int) (a7 : Int) (a8 : Int) (a9 : Int) (h0 : a0 = a9) (h1 : 0 ≤ a0 ∧ a0 ≤ 11 ∧ 0 ≤ a3) (h2 : -1 ≤ a3 ∧ a3 ≤ 5) (h3 : -1 ≤ a4 ∧ a4 ≤ 2) (h4 : a3 = 1 ∨ a3 = 3 ∨ a3 = 4 → 0 ≤ a4) (h5 : a1 = a9) (h6 : 0 ≤ a1 ∧ a1 ≤ 11 ∧ 0 ≤ a5) (h7 : -1 ≤ a5 ∧ a5 ≤ 5) (h8 : -1 ≤ a6 ∧ a6 ≤ 2) (h9 : a5 = 1 ∨ a5 = 3 ∨ a5 = 4 → 0 ≤ a6) (h10 : a2 = a9) (h11 : 0 ≤ a2 ∧ a2 ≤ 11 ∧ 0 ≤ a7) (h12 : -1 ≤ a7 ∧ a7 ≤ 5) (h13 : -1 ≤ a8 ∧ a8 ≤ 2) (h14 : a7 = 1 ∨ a7 = 3 ∨ a7 = 4 → 0 ≤ a8) (r0 : -2147483648 ≤ a0 ∧ a0 < 2147483648) (r1 : -2147483648 ≤ a1 ∧ a1 < 2147483648) (r2 : -2147483648 ≤ a2 ∧ a2 < 2147483648) : 0 ≤ a7 := by first | (clear h4 h9; omega) | omega
theorem z_X11_all_18 (a0 : Int) (a1 : Int) (a2 : Int) (a3 : Nat) (a4 : Int) (a5 : Int) (a6 : Int) (a7 : Int) (a8 : Int) (a9 : Int) (a10 : Int) (a11 : Int) (h0 : a5 = a4 ∧ a9 = a8) (h1 : a0 = a5 ∧ -99 ≤ a5 ∧ a5 ≤ 0 ∧ 29 ≤ a9 ∧ a9 ≤ 99 ∧ a9 - a5 ≤ 198) (h2 : a4 ≤ a1 ∧ a1 ≤ a8 + 1) (h3 : 2147483648 - a1 < ((a3 + 1 : Nat) : Int)) (h4 : a6 = a4 ∧ a10 = a8) (h5 : a2 = a10 ∧ -99 ≤ a6 ∧ a6 ≤ 0 ∧ 29 ≤ a10 ∧ a10 ≤ 99 ∧ a10 - a6 ≤ 198) (h6 : ¬ (a2 < a1)) (h7 : a7 = a4 ∧ a11 = a8) (r0 : -2147483648 ≤ a0 ∧ a0 < 2147483648) (r1 : -2147483648 ≤ a1 ∧ a1 < 2147483648) (r2 : -2147483648 ≤ a2 ∧ a2 < 2147483648) : a7 ≤ a1 ∧ a1 ≤ a11 := by omega
theorem z_X11_all_19 (a0 : Int) (a1 : Int) (a2 : Int) (a3 : Int) (a4 : Nat) (a5 : Int) (a6 : Int) (a7 : Int) (a8 : Int) (a9 : Int) (a10 : Int) (a11 : Int) (a12 : Int) (h0 : a6 = a5 ∧ a10 = a9) (h1 : a0 = a6 ∧ -99 ≤ a6 ∧ a6 ≤ 0 ∧ 29 ≤ a10 ∧ a10 ≤ 99 ∧ a10 - a6 ≤ 198) (h2 : a5 ≤ a1 ∧ a1 ≤ a9 + 1) (h3 : 2147483648 - a1 < ((a4 + 1 : Nat) : Int)) (h4 : a7 = a5 ∧ a11 = a9) (h5 : a2 = a11 ∧ -99 ≤ a7 ∧ a7 ≤ 0 ∧ 29 ≤ a11 ∧ a11 ≤ 99 ∧ a11 - a7 ≤ 198) (h6 : ¬ (a2 < a1)) (h7 : a8 = a5 ∧ a12 = a9) (h8 : a3 = a1 + 1 ∨ a1 + 1 < -2147483648 ∨ 2147483648 ≤ a1 + 1) (r0 : -2147483648 ≤ a0 ∧ a0 < 2147483648) (r1 : -2147483648 ≤ a1 ∧ a1 < 2147483648) (r2 : -2147483648 ≤ a2 ∧ a2 < 2147483648) (r3 : -2147483648 ≤ a3 ∧ a3 < 2147483648) : a5 ≤ a3 ∧ a3 ≤ a9 + 1 := by omega
theorem z_X11_all_20 (a0 : Int) (a1 : Int) (a2 : Int) (a3 : Int) (a4 : Nat) (a5 : Int) (a6 : Int) (a7 : Int) (a8 : Int) (a9 : Int) (a10 : Int) (a11 : Int) (a12 : Int) (h0 : a6 = a5 ∧ a10 = a9) (h1 : a0 = a6 ∧ -99 ≤ a6 ∧ a6 ≤ 0 ∧ 29 ≤ a10 ∧ a10 ≤ 99 ∧ a10 - a6 ≤ 198) (h2 : a5 ≤ a1 ∧ a1 ≤ a9 + 1) (h3 : 2147483648 - a1 < ((a4 + 1 : Nat) : Int)) (h4 : a7 = a5 ∧ a11 = a9) (h5 : a2 = a11 ∧ -99 ≤ a7 ∧ a7 ≤ 0 ∧ 29 ≤ a11 ∧ a11 ≤ 99 ∧ a11 - a7 ≤ 198) (h6 : ¬ (a2 < a1)) (h7 : a8 = a5 ∧ a12 = a9) (h8 : a3 = a1 + 1 ∨ a1 + 1 < -2147483648 ∨ 2147483648 ≤ a1 + 1) (r0 : -2147483648 ≤ a0 ∧ a0 < 2147483648) (r1 : -2147483648 ≤ a1 ∧ a1 < 2147483648) (r2 : -2147483648 ≤ a2 ∧ a2 < 2147483648) (r3 : -2147483648 ≤ a3 ∧ a3 < 2147483648) : 2147483648 - a3 < ((a4 : Nat) : Int) := by omega
theorem z_X11_all_21 (a0 : Int) (a1 : Int) (a2 : Nat) (a3 : Nat) (h0 : 0 ≤ a0 ∧ a0 ≤ 12 ∧ a0 ≤ ((a3 : Nat) : Int)) (h1 : (0 : Int) ≤ a1) (h2 : 2147483648 - a1 < ((a2 + 1 : Nat) : Int)) (h3 : ¬ (a0 ≤ a1)) (r0 : -2147483648 ≤ a0 ∧ a0 < 2147483648) (r1 : -2147483648 ≤ a1 ∧ a1 < 2147483648) : 0 ≤ a1 ∧ a1 < ((12 : Nat) : Int) := by omega
theorem z_X11_all_22 (a0 : Int) (a1 : Int) (a2 : Nat) (a3 : Nat) (h0 : 0 ≤ a0 ∧ a0 ≤ 12 ∧ a0 ≤ ((a3 : Nat) : Int)) (h1 : (0 : Int) ≤ a1) (h2 : 2147483648 - a1 < ((a2 + 1 : Nat) : Int)) (h3 : ¬ (a0 ≤ a1)) (r0 : -2147483648 ≤ a0 ∧ a0 < 2147483648) (r1 : -2147483648 ≤ a1 ∧ a1 < 2147483648) : 0 ≤ a1 ∧ a1 < ((a3 : Nat) : Int) := by omega
theorem z_X11_all_23 (a0 : Int) (a1 : Int) (a2 : Int) (a3 : Int) (a4 : Int) (a5 : Int) (a6 : Int) (a7 : Int) (a8 : Int) (a9 : Int) (a10 : Int) (a11 : Int) (h0 : a0 = a11) (h1 : 0 ≤ a0 ∧ a0 ≤ 11 ∧ 0 ≤ a4) (h2 : -1 ≤ a4 ∧ a4 ≤ 5) (h3 : -1 ≤ a5 ∧ a5 ≤ 2) (h4 : a4 = 1 ∨ a4 = 3 ∨ a4 = 4 → 0 ≤ a5) (h5 : a1 = a11) (h6 : 0 ≤ a1 ∧ a1 ≤ 11 ∧ 0 ≤ a6) (h7 : -1 ≤ a6 ∧ a6 ≤ 5) (h8 : -1 ≤ a7 ∧ a7 ≤ 2) (h9 : a6 = 1 ∨ a6 = 3 ∨ a6 = 4 → 0 ≤ a7) (h10 : a2 = a11) (h11 : 0 ≤ a2 ∧ a2 ≤ 11 ∧ 0 ≤ a8) (h12 : -1 ≤ a8 ∧ a8 ≤ 5) (h13 : -1 ≤ a9 ∧ a9 ≤ 2) (h14 : a8 = 1 ∨ a8 = 3 ∨ a8 = 4 → 0 ≤ a9) (h15 : a3 = a11) (h16 : 0 ≤ a3 ∧ a3 ≤ 11 ∧ 0 ≤ a10) (r0 : -2147483648 ≤ a0 ∧ a0 < 2147483648) (r1 : -2147483648 ≤ a1 ∧ a1 < 2147483648) (r2 : -2147483648 ≤ a2 ∧ a2 < 2147483648) (r3 : -2147483648 ≤ a3 ∧ a3 < 2147483648) : 0 ≤ a3 ∧ a3 ≤ 11 := by first | (clear h4 h9 h14; omega) | omega
theorem z_X11_all_24 (a0 : Int) (a1 : Int) (a2 : Int) (a3 : Int) (a4 : Int) (h0 : a2 = a1 ∧ a4 = a3) (h1 : a0 = a2 ∧ -99 ≤ a2 ∧ a2 ≤ 0 ∧ 29 ≤ a4 ∧ a4 ≤ 99 ∧ a4 - a2 ≤ 198) (r0 : -2147483648 ≤ a0 ∧ a0 < 2147483648) : a1 ≤ a0 ∧ a0 ≤ a3 + 1 := by omega
theorem z_X11_all_25 (a0 : Int) (a1 : Int) (a2 : Int) (a3 : Int) (a4 : Int) (h0 : a2 = a1 ∧ a4 = a3) (h1 : a0 = a2 ∧ -99 ≤ a2 ∧ a2 ≤ 0 ∧ 29 ≤ a4 ∧ a4 ≤ 99 ∧ a4 - a2 ≤ 198) (r0 : -2147483648 ≤ a0 ∧ a0 < 2147483648) : 2147483648 - a0 < ((4294967297 : Nat) : Int) := by omega
abbrev rm_X11_all : Room := { frames := 4, cells := 0, slots := 0, locals := 104 }
set_option maxHeartbeats 4000000 in
set_option maxRecDepth 100000 in
theorem c_X11_all (l : Launch) (E : XE) (K : Nat → Nat) (F : Nat → Nat → Nat) (tl z0 z1 z2 z3 z4 z5 z6 z7 z8 z9 z10 z11 z12 z13 z14 z15 z16 z17 z18 z19 z20 : Int32) (ar0 ar1 ar2 ar3 ar4 ar5 ar6 ar7 ar8 ar9 ar10 : Nat → Int32) (a : Nat) (p0 : Int32) (ha : K a = 13) (hR : RV ar1) : Met l yX11_all (xw yX11_all cX11_all 7 (some .int)) rm_X11_all (va_Pc [.ref a, .int p0] (XP E K F (tl, [z0, z1, z2, z3, z4, z5, z6, z7, z8, z9, z10, z11, z12, z13, z14, z15, z16, z17, z18, z19, z20], [ar0, ar1, ar2, ar3, ar4, ar5, ar6, ar7, ar8, ar9, ar10]))) (XQ E (fun v (u : Int32 × Int32 × (Nat → Int32)) => ∃ r : Int32, v = .int r) (fun u H => TW E K F (tl, [u.1, z1, z2, u.2.1, z4, z5, z6, z7, z8, z9, z10, z11, z12, z13, z14, z15, z16, z17, z18, z19, z20], [ar0, ar1, u.2.2, ar3, ar4, ar5, ar6, ar7, ar8, ar9, ar10]) [] H)) 0 0 (xA E) := by
  refine x_enter (by decide) (Nat.le_of_ble_eq_true rfl) ?_
  intro p e s m args below meth c Q S hr hlk hnm hQ hP ls hl
  obtain ⟨hz, hK, hT⟩ := hP
  obtain ⟨hx, hb, -, -, -⟩ := id S
  obtain ⟨H, hT, hS, hgo⟩ : ∃ H : Heap, TW E K F (tl, [z0, z1, z2, z3, z4, z5, z6, z7, z8, z9, z10, z11, z12, z13, z14, z15, z16, z17, z18, z19, z20], [ar0, ar1, ar2, ar3, ar4, ar5, ar6, ar7, ar8, ar9, ar10]) [] H ∧ va_S (xA E) s.heap H [] ∧ H = s.heap := ⟨_, hT, va_S.rf, rfl⟩
  rw [← hgo]
  have hl : lv_has ls 7 [(0, .ref a), (1, .int p0)] := hl
  refine lv_aload_n hx hb dX11_all_0 rfl (lv_at hl 0 rfl) ?_
  refine lv_iconst (v := 0) hx hb dX11_all_1 (by decide) ?_
  refine pX11_0 (kq := []) (v := 0) S hK hT hS ha kf_X11_134 (Nat.le_of_ble_eq_true rfl) dX11_all_2 (fun _ h => by cases h) (fun H locs hT hS => ?_)
  have hT : TW E K F (tl, [0, z1, z2, z3, z4, z5, z6, z7, z8, z9, z10, z11, z12, z13, z14, z15, z16, z17, z18, z19, z20], [ar0, ar1, ar2, ar3, ar4, ar5, ar6, ar7, ar8, ar9, ar10]) [] H := hT
  refine lv_iload_n hx hb dX11_all_5 rfl (lv_at hl 1 rfl) ?_
  refine lv_i2l (v := p0.toInt64) hx hb dX11_all_6 rfl ?_
  refine lv_lconst (v := (0 : Int64)) hx hb dX11_all_7 (by decide) ?_
  refine lv_ldc2 (v := 2) hx hb S.2.2.2.1 (S.2.2.2.2 _ (List.mem_cons_of_mem _ kc_X11_137)) dX11_all_8 ?_
  refine x_clp (x_runS (As := [.long p0.toInt64, .long (0 : Int64), .long (2 : Int64)]) (rest := []) S (c_X11_in l E K F tl 0 z1 z2 z3 z4 z5 z6 z7 z8 z9 z10 z11 z12 z13 z14 z15 z16 z17 z18 z19 z20 ar0 ar1 ar2 ar3 ar4 ar5 ar6 ar7 ar8 ar9 ar10 H p0.toInt64 (0 : Int64) (2 : Int64) p0.toInt (0 : Int) (2 : Int) (xl_i2l (rfl : Int32.toInt p0 = p0.toInt)) (by decide) (by decide)) ms_X11_in km_X11_139 rfl rfl ⟨Nat.le_of_ble_eq_true rfl, Nat.le_of_ble_eq_true rfl⟩ hK (fun _ => XPh.blind) (fun U hU hW => XPh.at hK hz hS hT hU hW) rfl hl.1 (Nat.le_of_ble_eq_true rfl) dX11_all_11 ⟨Nat.le_of_ble_eq_true rfl, Nat.le_of_ble_eq_true rfl⟩) hS ?_
  rintro _ _ locs ⟨x1, rfl, b2, t3⟩ hS
  have t3 : (x1.toInt = 1 ∧ (0 : Int) ≤ p0.toInt ∧ p0.toInt ≤ (2 : Int)) ∨ (x1.toInt = 0 ∧ (p0.toInt < (0 : Int) ∨ (2 : Int) < p0.toInt)) := t3
  refine xi_zne (tgt := 20) hx hb (rfl : Int32.toInt x1 = x1.toInt) dX11_all_14 (by decide) (fun c4 => ?_) (fun c4 => ?_)
  · refine lv_aload_n hx hb dX11_all_20 rfl (lv_at hl 0 rfl) ?_
    refine x_cv0 (x_runV (b := a) (As := []) (rest := []) S (c_X11_layOrder l E K F tl 0 z1 z2 z3 z4 z5 z6 z7 z8 z9 z10 z11 z12 z13 z14 z15 z16 z17 z18 z19 z20 ar0 ar1 ar2 ar3 ar4 ar5 ar6 ar7 ar8 ar9 ar10 a ha hR) mv_X11_layOrder km_X11_200 rfl rfl ⟨Nat.le_of_ble_eq_true rfl, Nat.le_of_ble_eq_true rfl⟩ (rc_13 hK hT ha) hK (fun _ => XP.blind) (fun U hU hW => XP.at hK hz hS hT hU hW) rfl hl.1 (Nat.le_of_ble_eq_true rfl) dX11_all_21 ⟨Nat.le_of_ble_eq_true rfl, Nat.le_of_ble_eq_true rfl⟩) hS ?_
    rintro ⟨u5, f6⟩ H locs t7 hT hS
    have hT : TW E K F (tl, [0, z1, z2, u5, z4, z5, z6, z7, z8, z9, z10, z11, z12, z13, z14, z15, z16, z17, z18, z19, z20], [ar0, ar1, f6, ar3, ar4, ar5, ar6, ar7, ar8, ar9, ar10]) [] H := hT
    have t7 : 0 ≤ u5.toInt ∧ u5.toInt ≤ 12 ∧ u5.toInt ≤ (((oV ar1 f6) : Nat) : Int) := t7
    refine lv_iconst (v := 0) hx hb dX11_all_24 (by decide) ?_
    refine lv_istore_n (lv' := [(2, .int 0), (0, .ref a), (1, .int p0)]) hx hb dX11_all_25 rfl hl (by decide) rfl (fun ls hl => ?_)
    refine lv_ldc (v := (-2147483648)) hx hb S.2.2.2.1 (S.2.2.2.2 _ (List.mem_cons_of_mem _ kc_X11_57)) dX11_all_26 ?_
    refine lv_istore_n (lv' := [(3, .int (-2147483648)), (2, .int 0), (0, .ref a), (1, .int p0)]) hx hb dX11_all_28 rfl hl (by decide) rfl (fun ls hl => ?_)
    refine lv_ldc (v := (-2147483648)) hx hb S.2.2.2.1 (S.2.2.2.2 _ (List.mem_cons_of_mem _ kc_X11_57)) dX11_all_29 ?_
    refine lv_istore (lv' := [(4, .int (-2147483648)), (3, .int (-2147483648)), (2, .int 0), (0, .ref a), (1, .int p0)]) hx hb dX11_all_31 hl (by decide) rfl (fun ls hl => ?_)
    refine lv_iconst (v := 0) hx hb dX11_all_33 (by decide) ?_
    refine lv_istore (lv' := [(5, .int 0), (4, .int (-2147483648)), (3, .int (-2147483648)), (2, .int 0), (0, .ref a), (1, .int p0)]) hx hb dX11_all_34 hl (by decide) rfl (fun ls hl => ?_)
    have L36 : ∀ (N14 : Nat) (x10 : Int32) (x11 : Int32) (x12 : Int32) (x13 : Int32) (H : Heap) (locs : List Loc) (ls : Array Slot), (0 : Int) ≤ x13.toInt → 2147483648 - x13.toInt < ((N14 : Nat) : Int) → TW E K F (tl, [0, z1, z2, u5, z4, z5, z6, z7, z8, z9, z10, z11, z12, z13, z14, z15, z16, z17, z18, z19, z20], [ar0, ar1, f6, ar3, ar4, ar5, ar6, ar7, ar8, ar9, ar10]) [] H → va_S (xA E) s.heap H locs → lv_has ls 7 [(0, .ref a), (1, .int p0), (2, .int x10), (3, .int x11), (4, .int x12), (5, .int x13)] → W p l e rm_X11_all s m args below meth c H locs 0 0 Q (F0 m 36 ls []) := by
      intro N14
      induction N14 with
      | zero =>
        intro x10 x11 x12 x13 H locs ls hf15 hm16
        exact absurd hm16 (z_X11_all_1 x13.toInt hf15 (xr x13))
      | succ N14 ih17 =>
        intro x10 x11 x12 x13 H locs ls hf15 hm16 hT hS hl
        refine lv_iload hx hb dX11_all_36 (lv_at hl 5 rfl) ?_
        refine lv_aload_n hx hb dX11_all_38 rfl (lv_at hl 0 rfl) ?_
        refine gX11_16 S hK hT ha kf_X11_197 dX11_all_39 (v := u5) rfl ?_
        refine xi_cge (tgt := 139) hx hb (rfl : Int32.toInt x13 = x13.toInt) (rfl : Int32.toInt u5 = u5.toInt) dX11_all_42 (by decide) (fun c18 => ?_) (fun c18 => ?_)
        · refine lv_iload_n hx hb dX11_all_139 rfl (lv_at hl 1 rfl) ?_
          refine xi_zne (tgt := 147) hx hb (rfl : Int32.toInt p0 = p0.toInt) dX11_all_140 (by decide) (fun c19 => ?_) (fun c19 => ?_)
          · refine lv_iload_n hx hb dX11_all_147 rfl (lv_at hl 2 rfl) ?_
            refine xi_zne (tgt := 155) hx hb (rfl : Int32.toInt x10 = x10.toInt) dX11_all_148 (by decide) (fun c20 => ?_) (fun c20 => ?_)
            · refine lv_iload_n hx hb dX11_all_155 rfl (lv_at hl 1 rfl) ?_
              refine lv_iconst (v := 1) hx hb dX11_all_156 (by decide) ?_
              refine xi_cne (tgt := 164) hx hb (rfl : Int32.toInt p0 = p0.toInt) ((by decide) : Int32.toInt 1 = (1 : Int)) dX11_all_157 (by decide) (fun c21 => ?_) (fun c21 => ?_)
              · refine lv_iload hx hb dX11_all_164 (lv_at hl 4 rfl) ?_
                exact x_ri hx hb hr hlk hQ (Nat.le_of_ble_eq_true rfl) (Nat.le_of_ble_eq_true rfl) hS dX11_all_166 (0, u5, f6) ⟨_, rfl⟩ hT.nil
              · refine lv_iload_n hx hb dX11_all_160 rfl (lv_at hl 3 rfl) ?_
                refine lv_goto (tgt := 166) hx hb dX11_all_161 (by decide) ?_
                exact x_ri hx hb hr hlk hQ (Nat.le_of_ble_eq_true rfl) (Nat.le_of_ble_eq_true rfl) hS dX11_all_166 (0, u5, f6) ⟨_, rfl⟩ hT.nil
            · refine lv_iconst (v := (-1)) hx hb dX11_all_151 (by decide) ?_
              refine lv_goto (tgt := 166) hx hb dX11_all_152 (by decide) ?_
              exact x_ri hx hb hr hlk hQ (Nat.le_of_ble_eq_true rfl) (Nat.le_of_ble_eq_true rfl) hS dX11_all_166 (0, u5, f6) ⟨_, rfl⟩ hT.nil
          · refine lv_iload_n hx hb dX11_all_143 rfl (lv_at hl 2 rfl) ?_
            refine lv_goto (tgt := 166) hx hb dX11_all_144 (by decide) ?_
            exact x_ri hx hb hr hlk hQ (Nat.le_of_ble_eq_true rfl) (Nat.le_of_ble_eq_true rfl) hS dX11_all_166 (0, u5, f6) ⟨_, rfl⟩ hT.nil
        · refine lv_aload_n hx hb dX11_all_45 rfl (lv_at hl 0 rfl) ?_
          refine lv_aload_n hx hb dX11_all_46 rfl (lv_at hl 0 rfl) ?_
          refine gX11_15 S hK hT ha kf_X11_48 dX11_all_47 (fun hk22 => ?_)
          refine lv_iload hx hb dX11_all_50 (lv_at hl 5 rfl) ?_
          refine tld_0 S hK hT hk22 (at_42 (f := f6) rfl) (by decide) (z_X11_all_2 u5.toInt x13.toInt N14 (oV ar1 f6) t7 hf15 hm16 c18 (xr u5) (xr x13)) dX11_all_52 (fun x23 w24 o25 => ?_)
          have v27 : 0 ≤ x23.toInt ∧ x23.toInt ≤ 11 ∧ 0 ≤ (aI ar1 (10 * x23.toInt + (0 : Int))) := oV_get w24 (z_X11_all_3 u5.toInt x13.toInt N14 (oV ar1 f6) t7 hf15 hm16 c18 (xr u5) (xr x13))
          have v28 : (-1 ≤ (aI ar1 (10 * x23.toInt + (0 : Int))) ∧ (aI ar1 (10 * x23.toInt + (0 : Int))) ≤ 5) ∧ (0 ≤ (aI ar1 (10 * x23.toInt + (1 : Int))) ∧ (aI ar1 (10 * x23.toInt + (1 : Int))) ≤ 2) ∧ (0 ≤ (aI ar1 (10 * x23.toInt + (2 : Int))) ∧ (aI ar1 (10 * x23.toInt + (2 : Int))) ≤ 2) ∧ (-1 ≤ (aI ar1 (10 * x23.toInt + (3 : Int))) ∧ (aI ar1 (10 * x23.toInt + (3 : Int))) ≤ 2) ∧ ((aI ar1 (10 * x23.toInt + (0 : Int))) = 1 ∨ (aI ar1 (10 * x23.toInt + (0 : Int))) = 3 ∨ (aI ar1 (10 * x23.toInt + (0 : Int))) = 4 → 0 ≤ (aI ar1 (10 * x23.toInt + (3 : Int)))) := RV.row hR (z_X11_all_4 x23.toInt (aI ar1 (10 * x23.toInt + (0 : Int))) (aI f6 x13.toInt) w24 v27 (xr x23))
          have v29 : (aF ar1 x23.toInt) = (aF ar1 (aI f6 x13.toInt)) ∧ (aL ar1 x23.toInt) = (aL ar1 (aI f6 x13.toInt)) := by rw [w24]; exact ⟨rfl, rfl⟩
          refine x_clp (x_runV (b := a) (As := [.int x23]) (rest := []) S (c_X11_firstSubject l E K F tl 0 z1 z2 u5 z4 z5 z6 z7 z8 z9 z10 z11 z12 z13 z14 z15 z16 z17 z18 z19 z20 ar0 ar1 f6 ar3 ar4 ar5 ar6 ar7 ar8 ar9 ar10 H a x23 ha hR (z_X11_all_5 x23.toInt (aI ar1 (10 * x23.toInt + (0 : Int))) (aI ar1 (10 * x23.toInt + (3 : Int))) (aI f6 x13.toInt) w24 v27 (v28).1 (v28).2.2.2.1 (v28).2.2.2.2 (xr x23))) mv_X11_firstSubject km_X11_179 rfl rfl ⟨Nat.le_of_ble_eq_true rfl, Nat.le_of_ble_eq_true rfl⟩ (rc_13 hK hT ha) hK (fun _ => XPh.blind) (fun U hU hW => XPh.at hK hz hS hT hU hW) rfl hl.1 (Nat.le_of_ble_eq_true rfl) dX11_all_53 ⟨Nat.le_of_ble_eq_true rfl, Nat.le_of_ble_eq_true rfl⟩) hS ?_
          rintro _ _ locs ⟨x31, rfl, t30⟩ hS
          have t30 : x31.toInt = (aF ar1 x23.toInt) ∧ -99 ≤ (aF ar1 x23.toInt) ∧ (aF ar1 x23.toInt) ≤ 0 ∧ 29 ≤ (aL ar1 x23.toInt) ∧ (aL ar1 x23.toInt) ≤ 99 ∧ (aL ar1 x23.toInt) - (aF ar1 x23.toInt) ≤ 198 := t30
          refine lv_istore (lv' := [(6, .int x31), (0, .ref a), (1, .int p0), (2, .int x10), (3, .int x11), (4, .int x12), (5, .int x13)]) hx hb dX11_all_56 hl (by decide) rfl (fun ls hl => ?_)
          have L58 : ∀ (N37 : Nat) (x33 : Int32) (x34 : Int32) (x35 : Int32) (x36 : Int32) (H : Heap) (locs : List Loc) (ls : Array Slot), (aF ar1 (aI f6 x13.toInt)) ≤ x36.toInt ∧ x36.toInt ≤ (aL ar1 (aI f6 x13.toInt)) + 1 → 2147483648 - x36.toInt < ((N37 : Nat) : Int) → TW E K F (tl, [0, z1, z2, u5, z4, z5, z6, z7, z8, z9, z10, z11, z12, z13, z14, z15, z16, z17, z18, z19, z20], [ar0, ar1, f6, ar3, ar4, ar5, ar6, ar7, ar8, ar9, ar10]) [] H → va_S (xA E) s.heap H locs → lv_has ls 7 [(0, .ref a), (1, .int p0), (2, .int x33), (3, .int x34), (4, .int x35), (5, .int x13), (6, .int x36)] → W p l e rm_X11_all s m args below meth c H locs 0 0 Q (F0 m 58 ls []) := by
            intro N37
            induction N37 with
            | zero =>
              intro x33 x34 x35 x36 H locs ls hf38 hm39
              exact absurd hm39 (z_X11_all_6 x31.toInt x36.toInt (aF ar1 (aI f6 x13.toInt)) (aF ar1 x23.toInt) (aL ar1 (aI f6 x13.toInt)) (aL ar1 x23.toInt) hf38 v29 t30 (xr x31) (xr x36))
            | succ N37 ih40 =>
              intro x33 x34 x35 x36 H locs ls hf38 hm39 hT hS hl
              refine lv_iload hx hb dX11_all_58 (lv_at hl 6 rfl) ?_
              refine lv_aload_n hx hb dX11_all_60 rfl (lv_at hl 0 rfl) ?_
              refine lv_aload_n hx hb dX11_all_61 rfl (lv_at hl 0 rfl) ?_
              refine gX11_15 S hK hT ha kf_X11_48 dX11_all_62 (fun hk41 => ?_)
              refine lv_iload hx hb dX11_all_65 (lv_at hl 5 rfl) ?_
              refine tld_0 S hK hT hk41 (at_42 (f := f6) rfl) (by decide) (z_X11_all_7 u5.toInt x13.toInt N14 (oV ar1 f6) t7 hf15 hm16 c18 (xr u5) (xr x13)) dX11_all_67 (fun x42 w43 o44 => ?_)
              have v46 : 0 ≤ x42.toInt ∧ x42.toInt ≤ 11 ∧ 0 ≤ (aI ar1 (10 * x42.toInt + (0 : Int))) := oV_get w43 (z_X11_all_8 u5.toInt x13.toInt N14 (oV ar1 f6) t7 hf15 hm16 c18 (xr u5) (xr x13))
              have v47 : (-1 ≤ (aI ar1 (10 * x42.toInt + (0 : Int))) ∧ (aI ar1 (10 * x42.toInt + (0 : Int))) ≤ 5) ∧ (0 ≤ (aI ar1 (10 * x42.toInt + (1 : Int))) ∧ (aI ar1 (10 * x42.toInt + (1 : Int))) ≤ 2) ∧ (0 ≤ (aI ar1 (10 * x42.toInt + (2 : Int))) ∧ (aI ar1 (10 * x42.toInt + (2 : Int))) ≤ 2) ∧ (-1 ≤ (aI ar1 (10 * x42.toInt + (3 : Int))) ∧ (aI ar1 (10 * x42.toInt + (3 : Int))) ≤ 2) ∧ ((aI ar1 (10 * x42.toInt + (0 : Int))) = 1 ∨ (aI ar1 (10 * x42.toInt + (0 : Int))) = 3 ∨ (aI ar1 (10 * x42.toInt + (0 : Int))) = 4 → 0 ≤ (aI ar1 (10 * x42.toInt + (3 : Int)))) := RV.row hR (z_X11_all_9 x23.toInt x42.toInt (aI ar1 (10 * x23.toInt + (0 : Int))) (aI ar1 (10 * x23.toInt + (3 : Int))) (aI ar1 (10 * x42.toInt + (0 : Int))) (aI f6 x13.toInt) w24 v27 (v28).1 (v28).2.2.2.1 (v28).2.2.2.2 w43 v46 (xr x23) (xr x42))
              have v48 : (aF ar1 x42.toInt) = (aF ar1 (aI f6 x13.toInt)) ∧ (aL ar1 x42.toInt) = (aL ar1 (aI f6 x13.toInt)) := by rw [w43]; exact ⟨rfl, rfl⟩
              refine x_clp (x_runV (b := a) (As := [.int x42]) (rest := [.int x36]) S (c_X11_lastSubject l E K F tl 0 z1 z2 u5 z4 z5 z6 z7 z8 z9 z10 z11 z12 z13 z14 z15 z16 z17 z18 z19 z20 ar0 ar1 f6 ar3 ar4 ar5 ar6 ar7 ar8 ar9 ar10 H a x42 ha hR (z_X11_all_10 x23.toInt x42.toInt (aI ar1 (10 * x23.toInt + (0 : Int))) (aI ar1 (10 * x23.toInt + (3 : Int))) (aI ar1 (10 * x42.toInt + (0 : Int))) (aI ar1 (10 * x42.toInt + (3 : Int))) (aI f6 x13.toInt) w24 v27 (v28).1 (v28).2.2.2.1 (v28).2.2.2.2 w43 v46 (v47).1 (v47).2.2.2.1 (v47).2.2.2.2 (xr x23) (xr x42))) mv_X11_lastSubject km_X11_183 rfl rfl ⟨Nat.le_of_ble_eq_true rfl, Nat.le_of_ble_eq_true rfl⟩ (rc_13 hK hT ha) hK (fun _ => XPh.blind) (fun U hU hW => XPh.at hK hz hS hT hU hW) rfl hl.1 (Nat.le_of_ble_eq_true rfl) dX11_all_68 ⟨Nat.le_of_ble_eq_true rfl, Nat.le_of_ble_eq_true rfl⟩) hS ?_
              rintro _ _ locs ⟨x50, rfl, t49⟩ hS
              have t49 : x50.toInt = (aL ar1 x42.toInt) ∧ -99 ≤ (aF ar1 x42.toInt) ∧ (aF ar1 x42.toInt) ≤ 0 ∧ 29 ≤ (aL ar1 x42.toInt) ∧ (aL ar1 x42.toInt) ≤ 99 ∧ (aL ar1 x42.toInt) - (aF ar1 x42.toInt) ≤ 198 := t49
              refine xi_cgt (tgt := 133) hx hb (rfl : Int32.toInt x36 = x36.toInt) (rfl : Int32.toInt x50 = x50.toInt) dX11_all_71 (by decide) (fun c52 => ?_) (fun c52 => ?_)
              · refine xi_iinc (n := 1) (lv' := fun z9 => [(5, .int z9), (0, .ref a), (1, .int p0), (2, .int x33), (3, .int x34), (4, .int x35), (6, .int x36)]) (k := 5) hx hb (rfl : Int32.toInt x13 = x13.toInt) (by decide) dX11_all_133 hl rfl (by decide) (fun _ => rfl) (fun x53 ls t54 hl => ?_)
                have hl : lv_has ls 7 [(5, .int x53), (0, .ref a), (1, .int p0), (2, .int x33), (3, .int x34), (4, .int x35), (6, .int x36)] := hl
                refine lv_goto (tgt := 36) hx hb dX11_all_136 (by decide) ?_
                exact ih17 x33 x34 x35 x53 _ _ _ (z_X11_all_11 u5.toInt x13.toInt x53.toInt N14 (oV ar1 f6) t7 hf15 hm16 c18 t54 (xr u5) (xr x13) (xr x53)) (z_X11_all_12 u5.toInt x13.toInt x53.toInt N14 (oV ar1 f6) t7 hf15 hm16 c18 t54 (xr u5) (xr x13) (xr x53)) hT.nil hS (lv_sub hl [1, 2, 3, 4, 5, 0] rfl)
              · refine lv_aload_n hx hb dX11_all_74 rfl (lv_at hl 0 rfl) ?_
                refine lv_aload_n hx hb dX11_all_75 rfl (lv_at hl 0 rfl) ?_
                refine gX11_15 S hK hT ha kf_X11_48 dX11_all_76 (fun hk55 => ?_)
                refine lv_iload hx hb dX11_all_79 (lv_at hl 5 rfl) ?_
                refine tld_0 S hK hT hk55 (at_42 (f := f6) rfl) (by decide) (z_X11_all_13 u5.toInt x13.toInt N14 (oV ar1 f6) t7 hf15 hm16 c18 (xr u5) (xr x13)) dX11_all_81 (fun x56 w57 o58 => ?_)
                have v60 : 0 ≤ x56.toInt ∧ x56.toInt ≤ 11 ∧ 0 ≤ (aI ar1 (10 * x56.toInt + (0 : Int))) := oV_get w57 (z_X11_all_14 u5.toInt x13.toInt N14 (oV ar1 f6) t7 hf15 hm16 c18 (xr u5) (xr x13))
                have v61 : (-1 ≤ (aI ar1 (10 * x56.toInt + (0 : Int))) ∧ (aI ar1 (10 * x56.toInt + (0 : Int))) ≤ 5) ∧ (0 ≤ (aI ar1 (10 * x56.toInt + (1 : Int))) ∧ (aI ar1 (10 * x56.toInt + (1 : Int))) ≤ 2) ∧ (0 ≤ (aI ar1 (10 * x56.toInt + (2 : Int))) ∧ (aI ar1 (10 * x56.toInt + (2 : Int))) ≤ 2) ∧ (-1 ≤ (aI ar1 (10 * x56.toInt + (3 : Int))) ∧ (aI ar1 (10 * x56.toInt + (3 : Int))) ≤ 2) ∧ ((aI ar1 (10 * x56.toInt + (0 : Int))) = 1 ∨ (aI ar1 (10 * x56.toInt + (0 : Int))) = 3 ∨ (aI ar1 (10 * x56.toInt + (0 : Int))) = 4 → 0 ≤ (aI ar1 (10 * x56.toInt + (3 : Int)))) := RV.row hR (z_X11_all_15 x23.toInt x42.toInt x56.toInt (aI ar1 (10 * x23.toInt + (0 : Int))) (aI ar1 (10 * x23.toInt + (3 : Int))) (aI ar1 (10 * x42.toInt + (0 : Int))) (aI ar1 (10 * x42.toInt + (3 : Int))) (aI ar1 (10 * x56.toInt + (0 : Int))) (aI f6 x13.toInt) w24 v27 (v28).1 (v28).2.2.2.1 (v28).2.2.2.2 w43 v46 (v47).1 (v47).2.2.2.1 (v47).2.2.2.2 w57 v60 (xr x23) (xr x42) (xr x56))
                have v62 : (aF ar1 x56.toInt) = (aF ar1 (aI f6 x13.toInt)) ∧ (aL ar1 x56.toInt) = (aL ar1 (aI f6 x13.toInt)) := by rw [w57]; exact ⟨rfl, rfl⟩
                refine lv_iload hx hb dX11_all_82 (lv_at hl 6 rfl) ?_
                refine lv_aload_n hx hb dX11_all_84 rfl (lv_at hl 0 rfl) ?_
                refine gX11_1 S hK hT ha kf_X11_9 dX11_all_85 (fun hk63 => ?_)
                refine lv_iconst (v := 0) hx hb dX11_all_88 (by decide) ?_
                refine x_clp (x_runV (b := a) (As := [.int x56, .int x36, .ref (F a 1), .int 0]) (rest := []) S (c_X11_fails l E K F tl 0 z1 z2 u5 z4 z5 z6 z7 z8 z9 z10 z11 z12 z13 z14 z15 z16 z17 z18 z19 z20 ar0 ar1 f6 ar3 ar4 ar5 ar6 ar7 ar8 ar9 ar10 H a x56 x36 (F a 1) 0 ha (XO.a hk63 (by decide)) hR (z_X11_all_16 x23.toInt x42.toInt x56.toInt (aI ar1 (10 * x23.toInt + (0 : Int))) (aI ar1 (10 * x23.toInt + (3 : Int))) (aI ar1 (10 * x42.toInt + (0 : Int))) (aI ar1 (10 * x42.toInt + (3 : Int))) (aI ar1 (10 * x56.toInt + (0 : Int))) (aI ar1 (10 * x56.toInt + (3 : Int))) (aI f6 x13.toInt) w24 v27 (v28).1 (v28).2.2.2.1 (v28).2.2.2.2 w43 v46 (v47).1 (v47).2.2.2.1 (v47).2.2.2.2 w57 v60 (v61).1 (v61).2.2.2.1 (v61).2.2.2.2 (xr x23) (xr x42) (xr x56)) (z_X11_all_17 x23.toInt x42.toInt x56.toInt (aI ar1 (10 * x23.toInt + (0 : Int))) (aI ar1 (10 * x23.toInt + (3 : Int))) (aI ar1 (10 * x42.toInt + (0 : Int))) (aI ar1 (10 * x42.toInt + (3 : Int))) (aI ar1 (10 * x56.toInt + (0 : Int))) (aI ar1 (10 * x56.toInt + (3 : Int))) (aI f6 x13.toInt) w24 v27 (v28).1 (v28).2.2.2.1 (v28).2.2.2.2 w43 v46 (v47).1 (v47).2.2.2.1 (v47).2.2.2.2 w57 v60 (v61).1 (v61).2.2.2.1 (v61).2.2.2.2 (xr x23) (xr x42) (xr x56)) (z_X11_all_18 x31.toInt x36.toInt x50.toInt N37 (aF ar1 (aI f6 x13.toInt)) (aF ar1 x23.toInt) (aF ar1 x42.toInt) (aF ar1 x56.toInt) (aL ar1 (aI f6 x13.toInt)) (aL ar1 x23.toInt) (aL ar1 x42.toInt) (aL ar1 x56.toInt) v29 t30 hf38 hm39 v48 t49 c52 v62 (xr x31) (xr x36) (xr x50))) mv_X11_fails km_X11_221 rfl rfl ⟨Nat.le_of_ble_eq_true rfl, Nat.le_of_ble_eq_true rfl⟩ (rc_13 hK hT ha) hK (fun _ => XPh.blind) (fun U hU hW => XPh.at hK hz hS hT hU hW) rfl hl.1 (Nat.le_of_ble_eq_true rfl) dX11_all_89 ⟨Nat.le_of_ble_eq_true rfl, Nat.le_of_ble_eq_true rfl⟩) hS ?_
                rintro _ _ locs ⟨x64, rfl, b65⟩ hS
                have J127 : ∀ (x66 : Int32) (x67 : Int32) (x68 : Int32) (H : Heap) (locs : List Loc) (ls : Array Slot), TW E K F (tl, [0, z1, z2, u5, z4, z5, z6, z7, z8, z9, z10, z11, z12, z13, z14, z15, z16, z17, z18, z19, z20], [ar0, ar1, f6, ar3, ar4, ar5, ar6, ar7, ar8, ar9, ar10]) [] H → va_S (xA E) s.heap H locs → lv_has ls 7 [(0, .ref a), (1, .int p0), (2, .int x66), (3, .int x67), (4, .int x68), (5, .int x13), (6, .int x36)] → W p l e rm_X11_all s m args below meth c H locs 0 0 Q (F0 m 127 ls []) := by
                  intro x66 x67 x68 H locs ls hT hS hl
                  refine xi_iinc (n := 1) (lv' := fun z9 => [(6, .int z9), (0, .ref a), (1, .int p0), (2, .int x66), (3, .int x67), (4, .int x68), (5, .int x13)]) (k := 6) hx hb (rfl : Int32.toInt x36 = x36.toInt) (by decide) dX11_all_127 hl rfl (by decide) (fun _ => rfl) (fun x69 ls t70 hl => ?_)
                  have hl : lv_has ls 7 [(6, .int x69), (0, .ref a), (1, .int p0), (2, .int x66), (3, .int x67), (4, .int x68), (5, .int x13)] := hl
                  refine lv_goto (tgt := 58) hx hb dX11_all_130 (by decide) ?_
                  exact ih40 x66 x67 x68 x69 _ _ _ (z_X11_all_19 x31.toInt x36.toInt x50.toInt x69.toInt N37 (aF ar1 (aI f6 x13.toInt)) (aF ar1 x23.toInt) (aF ar1 x42.toInt) (aF ar1 x56.toInt) (aL ar1 (aI f6 x13.toInt)) (aL ar1 x23.toInt) (aL ar1 x42.toInt) (aL ar1 x56.toInt) v29 t30 hf38 hm39 v48 t49 c52 v62 t70 (xr x31) (xr x36) (xr x50) (xr x69)) (z_X11_all_20 x31.toInt x36.toInt x50.toInt x69.toInt N37 (aF ar1 (aI f6 x13.toInt)) (aF ar1 x23.toInt) (aF ar1 x42.toInt) (aF ar1 x56.toInt) (aL ar1 (aI f6 x13.toInt)) (aL ar1 x23.toInt) (aL ar1 x42.toInt) (aL ar1 x56.toInt) v29 t30 hf38 hm39 v48 t49 c52 v62 t70 (xr x31) (xr x36) (xr x50) (xr x69)) hT.nil hS (lv_sub hl [1, 2, 3, 4, 5, 6, 0] rfl)
                refine xi_zeq (tgt := 127) hx hb (rfl : Int32.toInt x64 = x64.toInt) dX11_all_92 (by decide) (fun c71 => ?_) (fun c71 => ?_)
                · exact J127 x33 x34 x35 _ _ _ hT.nil hS (lv_sub hl [0, 1, 2, 3, 4, 5, 6] rfl)
                · refine lv_iload_n hx hb dX11_all_95 rfl (lv_at hl 2 rfl) ?_
                  have J110 : ∀ (x72 : Int32) (H : Heap) (locs : List Loc) (ls : Array Slot), TW E K F (tl, [0, z1, z2, u5, z4, z5, z6, z7, z8, z9, z10, z11, z12, z13, z14, z15, z16, z17, z18, z19, z20], [ar0, ar1, f6, ar3, ar4, ar5, ar6, ar7, ar8, ar9, ar10]) [] H → va_S (xA E) s.heap H locs → lv_has ls 7 [(0, .ref a), (1, .int p0), (2, .int x33), (4, .int x35), (5, .int x13), (6, .int x36)] → W p l e rm_X11_all s m args below meth c H locs 0 0 Q (F0 m 110 ls [.int x72]) := by
                    intro x72 H locs ls hT hS hl
                    refine lv_istore_n (lv' := [(3, .int x72), (0, .ref a), (1, .int p0), (2, .int x33), (4, .int x35), (5, .int x13), (6, .int x36)]) hx hb dX11_all_110 rfl hl (by decide) rfl (fun ls hl => ?_)
                    refine lv_iload_n hx hb dX11_all_111 rfl (lv_at hl 3 rfl) ?_
                    have J122 : ∀ (x73 : Int32) (H : Heap) (locs : List Loc) (ls : Array Slot), TW E K F (tl, [0, z1, z2, u5, z4, z5, z6, z7, z8, z9, z10, z11, z12, z13, z14, z15, z16, z17, z18, z19, z20], [ar0, ar1, f6, ar3, ar4, ar5, ar6, ar7, ar8, ar9, ar10]) [] H → va_S (xA E) s.heap H locs → lv_has ls 7 [(0, .ref a), (1, .int p0), (2, .int x33), (3, .int x72), (5, .int x13), (6, .int x36)] → W p l e rm_X11_all s m args below meth c H locs 0 0 Q (F0 m 122 ls [.int x73]) := by
                      intro x73 H locs ls hT hS hl
                      refine lv_istore (lv' := [(4, .int x73), (0, .ref a), (1, .int p0), (2, .int x33), (3, .int x72), (5, .int x13), (6, .int x36)]) hx hb dX11_all_122 hl (by decide) rfl (fun ls hl => ?_)
                      refine xi_iinc (n := 1) (lv' := fun z9 => [(2, .int z9), (4, .int x73), (0, .ref a), (1, .int p0), (3, .int x72), (5, .int x13), (6, .int x36)]) (k := 3) hx hb (rfl : Int32.toInt x33 = x33.toInt) (by decide) dX11_all_124 hl rfl (by decide) (fun _ => rfl) (fun x74 ls t75 hl => ?_)
                      have hl : lv_has ls 7 [(2, .int x74), (4, .int x73), (0, .ref a), (1, .int p0), (3, .int x72), (5, .int x13), (6, .int x36)] := hl
                      exact J127 x74 x72 x73 _ _ _ hT.nil hS (lv_sub hl [2, 3, 0, 4, 1, 5, 6] rfl)
                    refine xi_zne (tgt := 120) hx hb (rfl : Int32.toInt x33 = x33.toInt) dX11_all_112 (by decide) (fun c76 => ?_) (fun c76 => ?_)
                    · refine lv_iload hx hb dX11_all_120 (lv_at hl 4 rfl) ?_
                      exact J122 x35 _ _ _ hT.nil hS (lv_sub hl [1, 2, 3, 0, 5, 6] rfl)
                    · refine lv_iload hx hb dX11_all_115 (lv_at hl 6 rfl) ?_
                      refine lv_goto (tgt := 122) hx hb dX11_all_117 (by decide) ?_
                      exact J122 x36 _ _ _ hT.nil hS (lv_sub hl [1, 2, 3, 0, 5, 6] rfl)
                  refine xi_zne (tgt := 109) hx hb (rfl : Int32.toInt x33 = x33.toInt) dX11_all_96 (by decide) (fun c77 => ?_) (fun c77 => ?_)
                  · refine lv_iload_n hx hb dX11_all_109 rfl (lv_at hl 3 rfl) ?_
                    exact J110 x34 _ _ _ hT.nil hS (lv_sub hl [0, 1, 2, 4, 5, 6] rfl)
                  · refine lv_aload_n hx hb dX11_all_99 rfl (lv_at hl 0 rfl) ?_
                    refine gX11_15 S hK hT ha kf_X11_48 dX11_all_100 (fun hk78 => ?_)
                    refine lv_iload hx hb dX11_all_103 (lv_at hl 5 rfl) ?_
                    refine tld_0 S hK hT hk78 (at_42 (f := f6) rfl) (by decide) (z_X11_all_21 u5.toInt x13.toInt N14 (oV ar1 f6) t7 hf15 hm16 c18 (xr u5) (xr x13)) dX11_all_105 (fun x79 w80 o81 => ?_)
                    have v83 : 0 ≤ x79.toInt ∧ x79.toInt ≤ 11 ∧ 0 ≤ (aI ar1 (10 * x79.toInt + (0 : Int))) := oV_get w80 (z_X11_all_22 u5.toInt x13.toInt N14 (oV ar1 f6) t7 hf15 hm16 c18 (xr u5) (xr x13))
                    have v84 : (-1 ≤ (aI ar1 (10 * x79.toInt + (0 : Int))) ∧ (aI ar1 (10 * x79.toInt + (0 : Int))) ≤ 5) ∧ (0 ≤ (aI ar1 (10 * x79.toInt + (1 : Int))) ∧ (aI ar1 (10 * x79.toInt + (1 : Int))) ≤ 2) ∧ (0 ≤ (aI ar1 (10 * x79.toInt + (2 : Int))) ∧ (aI ar1 (10 * x79.toInt + (2 : Int))) ≤ 2) ∧ (-1 ≤ (aI ar1 (10 * x79.toInt + (3 : Int))) ∧ (aI ar1 (10 * x79.toInt + (3 : Int))) ≤ 2) ∧ ((aI ar1 (10 * x79.toInt + (0 : Int))) = 1 ∨ (aI ar1 (10 * x79.toInt + (0 : Int))) = 3 ∨ (aI ar1 (10 * x79.toInt + (0 : Int))) = 4 → 0 ≤ (aI ar1 (10 * x79.toInt + (3 : Int)))) := RV.row hR (z_X11_all_23 x23.toInt x42.toInt x56.toInt x79.toInt (aI ar1 (10 * x23.toInt + (0 : Int))) (aI ar1 (10 * x23.toInt + (3 : Int))) (aI ar1 (10 * x42.toInt + (0 : Int))) (aI ar1 (10 * x42.toInt + (3 : Int))) (aI ar1 (10 * x56.toInt + (0 : Int))) (aI ar1 (10 * x56.toInt + (3 : Int))) (aI ar1 (10 * x79.toInt + (0 : Int))) (aI f6 x13.toInt) w24 v27 (v28).1 (v28).2.2.2.1 (v28).2.2.2.2 w43 v46 (v47).1 (v47).2.2.2.1 (v47).2.2.2.2 w57 v60 (v61).1 (v61).2.2.2.1 (v61).2.2.2.2 w80 v83 (xr x23) (xr x42) (xr x56) (xr x79))
                    have v85 : (aF ar1 x79.toInt) = (aF ar1 (aI f6 x13.toInt)) ∧ (aL ar1 x79.toInt) = (aL ar1 (aI f6 x13.toInt)) := by rw [w80]; exact ⟨rfl, rfl⟩
                    refine lv_goto (tgt := 110) hx hb dX11_all_106 (by decide) ?_
                    exact J110 x79 _ _ _ hT.nil hS (lv_sub hl [0, 1, 2, 4, 5, 6] rfl)
          exact L58 4294967297 x10 x11 x12 x31 _ _ _ (z_X11_all_24 x31.toInt (aF ar1 (aI f6 x13.toInt)) (aF ar1 x23.toInt) (aL ar1 (aI f6 x13.toInt)) (aL ar1 x23.toInt) v29 t30 (xr x31)) (z_X11_all_25 x31.toInt (aF ar1 (aI f6 x13.toInt)) (aF ar1 x23.toInt) (aL ar1 (aI f6 x13.toInt)) (aL ar1 x23.toInt) v29 t30 (xr x31)) hT.nil hS (lv_sub hl [1, 2, 3, 4, 5, 6, 0] rfl)
    exact L36 4294967297 0 (-2147483648) (-2147483648) 0 _ _ _ (by decide) (by decide) hT.nil hS (lv_sub hl [4, 5, 3, 2, 1, 0] rfl)
  · refine lv_ldc (v := (-2147483648)) hx hb S.2.2.2.1 (S.2.2.2.2 _ (List.mem_cons_of_mem _ kc_X11_57)) dX11_all_17 ?_
    exact x_ri hx hb hr hlk hQ (Nat.le_of_ble_eq_true rfl) (Nat.le_of_ble_eq_true rfl) hS dX11_all_19 (0, z3, ar2) ⟨_, rfl⟩ hT.nil

abbrev rm_X11_wouldTell : Room := { frames := 7, cells := 0, slots := 0, locals := 166 }
set_option maxHeartbeats 4000000 in
set_option maxRecDepth 100000 in
theorem c_X11_wouldTell (l : Launch) (E : XE) (K : Nat → Nat) (F : Nat → Nat → Nat) (tl z0 z1 z2 z3 z4 z5 z6 z7 z8 z9 z10 z11 z12 z13 z14 z15 z16 z17 z18 z19 z20 : Int32) (ar0 ar1 ar2 ar3 ar4 ar5 ar6 ar7 ar8 ar9 ar10 : Nat → Int32) (a : Nat) (ha : K a = 13) (hR : RV ar1) : Met l yX11_wouldTell (xw yX11_wouldTell cX11_wouldTell 2 (some .int)) rm_X11_wouldTell (va_Pc [.ref a] (XP E K F (tl, [z0, z1, z2, z3, z4, z5, z6, z7, z8, z9, z10, z11, z12, z13, z14, z15, z16, z17, z18, z19, z20], [ar0, ar1, ar2, ar3, ar4, ar5, ar6, ar7, ar8, ar9, ar10]))) (XQ E (fun v (u : Int32 × Int32 × Int32 × Int32 × (Nat → Int32) × (Nat → Int32) × (Nat → Int32) × (Nat → Int32)) => ∃ r : Int32, v = .int r) (fun u H => TW E K F (tl, [z0, z1, z2, u.1, u.2.1, z5, z6, z7, z8, z9, z10, z11, z12, z13, u.2.2.1, u.2.2.2.1, z16, z17, z18, z19, z20], [u.2.2.2.2.1, ar1, u.2.2.2.2.2.1, u.2.2.2.2.2.2.1, u.2.2.2.2.2.2.2, ar5, ar6, ar7, ar8, ar9, ar10]) [] H)) 0 0 (xA E) := by
  refine x_enter (by decide) (Nat.le_of_ble_eq_true rfl) ?_
  intro p e s m args below meth c Q S hr hlk hnm hQ hP ls hl
  obtain ⟨hz, hK, hT⟩ := hP
  obtain ⟨hx, hb, -, -, -⟩ := id S
  obtain ⟨H, hT, hS, hgo⟩ : ∃ H : Heap, TW E K F (tl, [z0, z1, z2, z3, z4, z5, z6, z7, z8, z9, z10, z11, z12, z13, z14, z15, z16, z17, z18, z19, z20], [ar0, ar1, ar2, ar3, ar4, ar5, ar6, ar7, ar8, ar9, ar10]) [] H ∧ va_S (xA E) s.heap H [] ∧ H = s.heap := ⟨_, hT, va_S.rf, rfl⟩
  rw [← hgo]
  have hl : lv_has ls 2 [(0, .ref a)] := hl
  refine lv_aload_n hx hb dX11_wouldTell_0 rfl (lv_at hl 0 rfl) ?_
  refine x_cl0 (x_runV (b := a) (As := []) (rest := []) S (c_X11_look l E K F tl z0 z1 z2 z3 z4 z5 z6 z7 z8 z9 z10 z11 z12 z13 z14 z15 z16 z17 z18 z19 z20 ar0 ar1 ar2 ar3 ar4 ar5 ar6 ar7 ar8 ar9 ar10 a ha hR) mv_X11_look km_X11_328 rfl rfl ⟨Nat.le_of_ble_eq_true rfl, Nat.le_of_ble_eq_true rfl⟩ (rc_13 hK hT ha) hK (fun _ => XP.blind) (fun U hU hW => XP.at hK hz hS hT hU hW) rfl hl.1 (Nat.le_of_ble_eq_true rfl) dX11_wouldTell_1 ⟨Nat.le_of_ble_eq_true rfl, Nat.le_of_ble_eq_true rfl⟩) hS ?_
  rintro _ ⟨u1, u2, u3, u4, f5, f6, f7⟩ H locs ⟨x9, rfl, t8⟩ hT hS
  have hT : TW E K F (tl, [z0, z1, z2, u1, u2, z5, z6, z7, z8, z9, z10, z11, z12, z13, u3, u4, z16, z17, z18, z19, z20], [ar0, ar1, f5, f6, f7, ar5, ar6, ar7, ar8, ar9, ar10]) [] H := hT
  have t8 : 0 ≤ u2.toInt ∧ u2.toInt ≤ 2388 ∧ u2.toInt ≤ (((fV ar1 f6 f7) : Nat) : Int) ∧ u4.toInt = x9.toInt ∧ (x9.toInt = -1 ∨ (0 ≤ x9.toInt ∧ x9.toInt < u2.toInt)) := t8
  refine lv_iconst (v := (-1)) hx hb dX11_wouldTell_4 (by decide) ?_
  have J38 : ∀ (x11 : Int32) (x12 : Int32) (f13 : Nat → Int32) (f14 : Nat → Int32) (f15 : Nat → Int32) (x16 : Int32) (H : Heap) (locs : List Loc) (ls : Array Slot), TW E K F (tl, [z0, z1, z2, x11, x12, z5, z6, z7, z8, z9, z10, z11, z12, z13, u3, u4, z16, z17, z18, z19, z20], [ar0, ar1, f13, f14, f15, ar5, ar6, ar7, ar8, ar9, ar10]) [] H → va_S (xA E) s.heap H locs → lv_has ls 2 [(0, .ref a)] → W p l e rm_X11_wouldTell s m args below meth c H locs 0 0 Q (F0 m 38 ls [.int x16]) := by
    intro x11 x12 f13 f14 f15 x16 H locs ls hT hS hl
    refine lv_istore_n (lv' := [(1, .int x16), (0, .ref a)]) hx hb dX11_wouldTell_38 rfl hl (by decide) rfl (fun ls hl => ?_)
    refine lv_aload_n hx hb dX11_wouldTell_39 rfl (lv_at hl 1 rfl) ?_
    refine gX11_4 S hK hT ha kf_X11_21 dX11_wouldTell_40 (fun hk17 => ?_)
    refine lv_iconst (v := 0) hx hb dX11_wouldTell_43 (by decide) ?_
    refine lv_aload_n hx hb dX11_wouldTell_44 rfl (lv_at hl 1 rfl) ?_
    refine gX11_1 S hK hT ha kf_X11_9 dX11_wouldTell_45 (fun hk18 => ?_)
    refine lv_iconst (v := 0) hx hb dX11_wouldTell_48 (by decide) ?_
    refine x_cv0 (x_runS (As := [.ref (F a 4), .int 0, .ref (F a 1), .int 0]) (rest := []) S (c_X11_copy_r l E K F tl z0 z1 z2 x11 x12 z5 z6 z7 z8 z9 z10 z11 z12 z13 u3 u4 z16 z17 z18 z19 z20 ar0 ar1 f13 f14 f15 ar5 ar6 ar7 ar8 ar9 ar10 (F a 4) 0 (F a 1) 0 (XO.b hk17 (by decide)) hk18 (by decide)) ms_X11_copy km_X11_309 rfl rfl ⟨Nat.le_of_ble_eq_true rfl, Nat.le_of_ble_eq_true rfl⟩ hK (fun _ => XP.blind) (fun U hU hW => XP.at hK hz hS hT hU hW) rfl hl.1 (Nat.le_of_ble_eq_true rfl) dX11_wouldTell_49 ⟨Nat.le_of_ble_eq_true rfl, Nat.le_of_ble_eq_true rfl⟩) hS ?_
    rintro f19 H locs - hT hS
    have hT : TW E K F (tl, [z0, z1, z2, x11, x12, z5, z6, z7, z8, z9, z10, z11, z12, z13, u3, u4, z16, z17, z18, z19, z20], [f19, ar1, f13, f14, f15, ar5, ar6, ar7, ar8, ar9, ar10]) [] H := hT
    refine lv_iload_n hx hb dX11_wouldTell_52 rfl (lv_at hl 0 rfl) ?_
    exact x_ri hx hb hr hlk hQ (Nat.le_of_ble_eq_true rfl) (Nat.le_of_ble_eq_true rfl) hS dX11_wouldTell_53 (x11, x12, u3, u4, f19, f13, f14, f15) ⟨_, rfl⟩ hT.nil
  refine xi_ceq (tgt := 13) hx hb (rfl : Int32.toInt x9 = x9.toInt) ((by decide) : Int32.toInt (-1) = (-1 : Int)) dX11_wouldTell_5 (by decide) (fun c22 => ?_) (fun c22 => ?_)
  · refine lv_aload_n hx hb dX11_wouldTell_13 rfl (lv_at hl 0 rfl) ?_
    refine gX11_6 S hK hT ha kf_X11_206 dX11_wouldTell_14 (v := z1) rfl ?_
    have J34 : ∀ (x23 : Int32) (x24 : Int32) (f25 : Nat → Int32) (f26 : Nat → Int32) (f27 : Nat → Int32) (H : Heap) (locs : List Loc) (ls : Array Slot), TW E K F (tl, [z0, z1, z2, x23, x24, z5, z6, z7, z8, z9, z10, z11, z12, z13, u3, u4, z16, z17, z18, z19, z20], [ar0, ar1, f25, f26, f27, ar5, ar6, ar7, ar8, ar9, ar10]) [] H → va_S (xA E) s.heap H locs → lv_has ls 2 [(0, .ref a)] → W p l e rm_X11_wouldTell s m args below meth c H locs 0 0 Q (F0 m 34 ls []) := by
      intro x23 x24 f25 f26 f27 H locs ls hT hS hl
      refine lv_aload_n hx hb dX11_wouldTell_34 rfl (lv_at hl 0 rfl) ?_
      refine gX11_45 S hK hT ha kf_X11_316 dX11_wouldTell_35 (v := u3) rfl ?_
      exact J38 x23 x24 f25 f26 f27 u3 _ _ _ hT.nil hS (lv_sub hl [0] rfl)
    refine xi_zne (tgt := 34) hx hb (rfl : Int32.toInt z1 = z1.toInt) dX11_wouldTell_17 (by decide) (fun c28 => ?_) (fun c28 => ?_)
    · exact J34 u1 u2 f5 f6 f7 _ _ _ hT.nil hS (lv_sub hl [0] rfl)
    · refine lv_aload_n hx hb dX11_wouldTell_20 rfl (lv_at hl 0 rfl) ?_
      refine lv_iconst (v := 1) hx hb dX11_wouldTell_21 (by decide) ?_
      refine x_cl0 (x_runV (b := a) (As := [.int 1]) (rest := []) S (c_X11_asks l E K F tl z0 z1 z2 u1 u2 z5 z6 z7 z8 z9 z10 z11 z12 z13 u3 u4 z16 z17 z18 z19 z20 ar0 ar1 f5 f6 f7 ar5 ar6 ar7 ar8 ar9 ar10 a 1 ha hR) mv_X11_asks km_X11_319 rfl rfl ⟨Nat.le_of_ble_eq_true rfl, Nat.le_of_ble_eq_true rfl⟩ (rc_13 hK hT ha) hK (fun _ => XP.blind) (fun U hU hW => XP.at hK hz hS hT hU hW) rfl hl.1 (Nat.le_of_ble_eq_true rfl) dX11_wouldTell_22 ⟨Nat.le_of_ble_eq_true rfl, Nat.le_of_ble_eq_true rfl⟩) hS ?_
      rintro _ ⟨u29, u30, f31, f32, f33⟩ H locs ⟨x35, rfl, t34⟩ hT hS
      have hT : TW E K F (tl, [z0, z1, z2, u29, u30, z5, z6, z7, z8, z9, z10, z11, z12, z13, u3, u4, z16, z17, z18, z19, z20], [ar0, ar1, f31, f32, f33, ar5, ar6, ar7, ar8, ar9, ar10]) [] H := hT
      have t34 : 0 ≤ u30.toInt ∧ u30.toInt ≤ 2388 ∧ u30.toInt ≤ (((fV ar1 f32 f33) : Nat) : Int) ∧ (x35.toInt = -1 ∨ (0 ≤ x35.toInt ∧ x35.toInt < u30.toInt)) := t34
      refine lv_iconst (v := (-1)) hx hb dX11_wouldTell_25 (by decide) ?_
      refine xi_ceq (tgt := 34) hx hb (rfl : Int32.toInt x35 = x35.toInt) ((by decide) : Int32.toInt (-1) = (-1 : Int)) dX11_wouldTell_26 (by decide) (fun c37 => ?_) (fun c37 => ?_)
      · exact J34 u29 u30 f31 f32 f33 _ _ _ hT.nil hS (lv_sub hl [0] rfl)
      · refine lv_bipush (v := (-5)) hx hb dX11_wouldTell_29 (by decide) ?_
        refine lv_goto (tgt := 38) hx hb dX11_wouldTell_31 (by decide) ?_
        exact J38 u29 u30 f31 f32 f33 (-5) _ _ _ hT.nil hS (lv_sub hl [0] rfl)
  · refine lv_bipush (v := (-5)) hx hb dX11_wouldTell_8 (by decide) ?_
    refine lv_goto (tgt := 38) hx hb dX11_wouldTell_10 (by decide) ?_
    exact J38 u1 u2 f5 f6 f7 (-5) _ _ _ hT.nil hS (lv_sub hl [0] rfl)

theorem z_X11_wouldSet_1 (a0 : Int) (a1 : Int) (a2 : Int) (a3 : Int) (a4 : Int) (a5 : Int) (a6 : Int) (h0 : a5 = 0 → 0 ≤ a0 ∧ a0 ≤ 2 ∧ 0 ≤ a1 ∧ a1 ≤ 29 ∧ 0 ≤ a2 ∧ a2 ≤ 2) (h1 : a5 = 0) (h2 : 0 ≤ a0 ∧ a0 ≤ 2 ∧ 0 ≤ a1 ∧ a1 ≤ 29 → a6 = 4 * (30 * a0 + a1)) (h3 : a3 = a6 + (1 : Int) ∨ a6 + (1 : Int) < -2147483648 ∨ 2147483648 ≤ a6 + (1 : Int)) (h4 : a4 = a3 + a2 ∨ a3 + a2 < -2147483648 ∨ 2147483648 ≤ a3 + a2) (r0 : -2147483648 ≤ a0 ∧ a0 < 2147483648) (r1 : -2147483648 ≤ a1 ∧ a1 < 2147483648) (r2 : -2147483648 ≤ a2 ∧ a2 < 2147483648) (r3 : -2147483648 ≤ a3 ∧ a3 < 2147483648) (r4 : -2147483648 ≤ a4 ∧ a4 < 2147483648) (r5 : -2147483648 ≤ a5 ∧ a5 < 2147483648) (r6 : -2147483648 ≤ a6 ∧ a6 < 2147483648) : 0 ≤ a4 ∧ a4 < ((360 : Nat) : Int) := by first | (clear h0 h2 h3; omega) | (clear h2; omega) | omega
abbrev rm_X11_wouldSet : Room := { frames := 8, cells := 0, slots := 0, locals := 187 }
set_option maxHeartbeats 4000000 in
set_option maxRecDepth 100000 in
theorem c_X11_wouldSet (l : Launch) (E : XE) (K : Nat → Nat) (F : Nat → Nat → Nat) (tl z0 z1 z2 z3 z4 z5 z6 z7 z8 z9 z10 z11 z12 z13 z14 z15 z16 z17 z18 z19 z20 : Int32) (ar0 ar1 ar2 ar3 ar4 ar5 ar6 ar7 ar8 ar9 ar10 : Nat → Int32) (a : Nat) (p0 : Int32) (p1 : Int32) (p2 : Int32) (p3 : Int32) (ha : K a = 13) (hR : RV ar1) : Met l yX11_wouldSet (xw yX11_wouldSet cX11_wouldSet 6 (some .int)) rm_X11_wouldSet (va_Pc [.ref a, .int p0, .int p1, .int p2, .int p3] (XP E K F (tl, [z0, z1, z2, z3, z4, z5, z6, z7, z8, z9, z10, z11, z12, z13, z14, z15, z16, z17, z18, z19, z20], [ar0, ar1, ar2, ar3, ar4, ar5, ar6, ar7, ar8, ar9, ar10]))) (XQ E (fun v (u : Int32 × Int32 × Int32 × Int32 × Int32 × (Nat → Int32) × (Nat → Int32) × (Nat → Int32) × (Nat → Int32)) => ∃ r : Int32, v = .int r) (fun u H => TW E K F (tl, [u.1, z1, z2, u.2.1, u.2.2.1, z5, z6, z7, z8, z9, z10, z11, z12, z13, u.2.2.2.1, u.2.2.2.2.1, z16, z17, z18, z19, z20], [u.2.2.2.2.2.1, ar1, u.2.2.2.2.2.2.1, u.2.2.2.2.2.2.2.1, u.2.2.2.2.2.2.2.2, ar5, ar6, ar7, ar8, ar9, ar10]) [] H)) 0 0 (xA E) := by
  refine x_enter (by decide) (Nat.le_of_ble_eq_true rfl) ?_
  intro p e s m args below meth c Q S hr hlk hnm hQ hP ls hl
  obtain ⟨hz, hK, hT⟩ := hP
  obtain ⟨hx, hb, -, -, -⟩ := id S
  obtain ⟨H, hT, hS, hgo⟩ : ∃ H : Heap, TW E K F (tl, [z0, z1, z2, z3, z4, z5, z6, z7, z8, z9, z10, z11, z12, z13, z14, z15, z16, z17, z18, z19, z20], [ar0, ar1, ar2, ar3, ar4, ar5, ar6, ar7, ar8, ar9, ar10]) [] H ∧ va_S (xA E) s.heap H [] ∧ H = s.heap := ⟨_, hT, va_S.rf, rfl⟩
  rw [← hgo]
  have hl : lv_has ls 6 [(0, .ref a), (1, .int p0), (2, .int p1), (3, .int p2), (4, .int p3)] := hl
  refine lv_aload_n hx hb dX11_wouldSet_0 rfl (lv_at hl 0 rfl) ?_
  refine lv_iconst (v := 0) hx hb dX11_wouldSet_1 (by decide) ?_
  refine pX11_0 (kq := []) (v := 0) S hK hT hS ha kf_X11_134 (Nat.le_of_ble_eq_true rfl) dX11_wouldSet_2 (fun _ h => by cases h) (fun H locs hT hS => ?_)
  have hT : TW E K F (tl, [0, z1, z2, z3, z4, z5, z6, z7, z8, z9, z10, z11, z12, z13, z14, z15, z16, z17, z18, z19, z20], [ar0, ar1, ar2, ar3, ar4, ar5, ar6, ar7, ar8, ar9, ar10]) [] H := hT
  refine lv_aload_n hx hb dX11_wouldSet_5 rfl (lv_at hl 0 rfl) ?_
  refine lv_iload_n hx hb dX11_wouldSet_6 rfl (lv_at hl 1 rfl) ?_
  refine lv_iload_n hx hb dX11_wouldSet_7 rfl (lv_at hl 2 rfl) ?_
  refine lv_iload_n hx hb dX11_wouldSet_8 rfl (lv_at hl 3 rfl) ?_
  refine lv_iload hx hb dX11_wouldSet_9 (lv_at hl 4 rfl) ?_
  refine x_clp (x_runV (b := a) (As := [.int p0, .int p1, .int p2, .int p3]) (rest := []) S (c_X11_whyNotSet l E K F tl 0 z1 z2 z3 z4 z5 z6 z7 z8 z9 z10 z11 z12 z13 z14 z15 z16 z17 z18 z19 z20 ar0 ar1 ar2 ar3 ar4 ar5 ar6 ar7 ar8 ar9 ar10 H a p0 p1 p2 p3 ha) mv_X11_whyNotSet km_X11_359 rfl rfl ⟨Nat.le_of_ble_eq_true rfl, Nat.le_of_ble_eq_true rfl⟩ (rc_13 hK hT ha) hK (fun _ => XPh.blind) (fun U hU hW => XPh.at hK hz hS hT hU hW) rfl hl.1 (Nat.le_of_ble_eq_true rfl) dX11_wouldSet_11 ⟨Nat.le_of_ble_eq_true rfl, Nat.le_of_ble_eq_true rfl⟩) hS ?_
  rintro _ _ locs ⟨x2, rfl, t1⟩ hS
  have t1 : x2.toInt = 0 → 0 ≤ p0.toInt ∧ p0.toInt ≤ 2 ∧ 0 ≤ p1.toInt ∧ p1.toInt ≤ 29 ∧ 0 ≤ p2.toInt ∧ p2.toInt ≤ 2 := t1
  refine lv_istore (lv' := [(5, .int x2), (0, .ref a), (1, .int p0), (2, .int p1), (3, .int p2), (4, .int p3)]) hx hb dX11_wouldSet_14 hl (by decide) rfl (fun ls hl => ?_)
  refine lv_iload hx hb dX11_wouldSet_16 (lv_at hl 0 rfl) ?_
  refine xi_zeq (tgt := 24) hx hb (rfl : Int32.toInt x2 = x2.toInt) dX11_wouldSet_18 (by decide) (fun c4 => ?_) (fun c4 => ?_)
  · refine lv_aload_n hx hb dX11_wouldSet_24 rfl (lv_at hl 1 rfl) ?_
    refine x_cv0 (x_runV (b := a) (As := []) (rest := []) S (c_X11_start l E K F tl 0 z1 z2 z3 z4 z5 z6 z7 z8 z9 z10 z11 z12 z13 z14 z15 z16 z17 z18 z19 z20 ar0 ar1 ar2 ar3 ar4 ar5 ar6 ar7 ar8 ar9 ar10 a ha hR) mv_X11_start km_X11_350 rfl rfl ⟨Nat.le_of_ble_eq_true rfl, Nat.le_of_ble_eq_true rfl⟩ (rc_13 hK hT ha) hK (fun _ => XP.blind) (fun U hU hW => XP.at hK hz hS hT hU hW) rfl hl.1 (Nat.le_of_ble_eq_true rfl) dX11_wouldSet_25 ⟨Nat.le_of_ble_eq_true rfl, Nat.le_of_ble_eq_true rfl⟩) hS ?_
    rintro _ H locs - hT hS
    refine lv_aload_n hx hb dX11_wouldSet_28 rfl (lv_at hl 1 rfl) ?_
    refine gX11_1 S hK hT ha kf_X11_9 dX11_wouldSet_29 (fun hk7 => ?_)
    refine lv_iload_n hx hb dX11_wouldSet_32 rfl (lv_at hl 2 rfl) ?_
    refine lv_iload_n hx hb dX11_wouldSet_33 rfl (lv_at hl 3 rfl) ?_
    refine x_clp (x_runS (As := [.int p0, .int p1]) (rest := [.ref (F a 1)]) S (c_X11_at l E K F tl 0 z1 z2 z3 z4 z5 z6 z7 z8 z9 z10 z11 z12 z13 z14 z15 z16 z17 z18 z19 z20 ar0 ar1 ar2 ar3 ar4 ar5 ar6 ar7 ar8 ar9 ar10 H p0 p1) ms_X11_at km_X11_156 rfl rfl ⟨Nat.le_of_ble_eq_true rfl, Nat.le_of_ble_eq_true rfl⟩ hK (fun _ => XPh.blind) (fun U hU hW => XPh.at hK hz hS hT hU hW) rfl hl.1 (Nat.le_of_ble_eq_true rfl) dX11_wouldSet_34 ⟨Nat.le_of_ble_eq_true rfl, Nat.le_of_ble_eq_true rfl⟩) hS ?_
    rintro _ _ locs ⟨x9, rfl, t8⟩ hS
    have t8 : 0 ≤ p0.toInt ∧ p0.toInt ≤ 2 ∧ 0 ≤ p1.toInt ∧ p1.toInt ≤ 29 → x9.toInt = 4 * (30 * p0.toInt + p1.toInt) := t8
    refine lv_iconst (v := 1) hx hb dX11_wouldSet_37 (by decide) ?_
    refine xi_iadd hx hb (rfl : Int32.toInt x9 = x9.toInt) ((by decide) : Int32.toInt 1 = (1 : Int)) dX11_wouldSet_38 (fun x11 t12 => ?_)
    refine lv_iload_n hx hb dX11_wouldSet_39 rfl (lv_at hl 4 rfl) ?_
    refine xi_iadd hx hb (rfl : Int32.toInt x11 = x11.toInt) (rfl : Int32.toInt p2 = p2.toInt) dX11_wouldSet_40 (fun x13 t14 => ?_)
    refine lv_iload hx hb dX11_wouldSet_41 (lv_at hl 5 rfl) ?_
    refine tst_0 S hK hT hS hk7 (at_30 (f := ar0) rfl) (fun _ => bt_30 (Nat.le_of_ble_eq_true rfl)) (by decide) (by decide) xti_30 (z_X11_wouldSet_1 p0.toInt p1.toInt p2.toInt x11.toInt x13.toInt x2.toInt x9.toInt t1 c4 t8 t12 t14 (xr p0) (xr p1) (xr p2) (xr x11) (xr x13) (xr x2) (xr x9)) dX11_wouldSet_43 (fun f15 H locs hu16 hT hS => ?_)
    have hT : TW E K F (tl, [0, z1, z2, z3, z4, z5, z6, z7, z8, z9, z10, z11, z12, z13, z14, z15, z16, z17, z18, z19, z20], [f15, ar1, ar2, ar3, ar4, ar5, ar6, ar7, ar8, ar9, ar10]) [] H := hT
    refine lv_aload_n hx hb dX11_wouldSet_44 rfl (lv_at hl 1 rfl) ?_
    refine x_cl0 (x_runV (b := a) (As := []) (rest := []) S (c_X11_wouldTell l E K F tl 0 z1 z2 z3 z4 z5 z6 z7 z8 z9 z10 z11 z12 z13 z14 z15 z16 z17 z18 z19 z20 f15 ar1 ar2 ar3 ar4 ar5 ar6 ar7 ar8 ar9 ar10 a ha hR) mv_X11_wouldTell km_X11_389 rfl rfl ⟨Nat.le_of_ble_eq_true rfl, Nat.le_of_ble_eq_true rfl⟩ (rc_13 hK hT ha) hK (fun _ => XP.blind) (fun U hU hW => XP.at hK hz hS hT hU hW) rfl hl.1 (Nat.le_of_ble_eq_true rfl) dX11_wouldSet_45 ⟨Nat.le_of_ble_eq_true rfl, Nat.le_of_ble_eq_true rfl⟩) hS ?_
    rintro _ ⟨u17, u18, u19, u20, f21, f22, f23, f24⟩ H locs ⟨x25, rfl⟩ hT hS
    have hT : TW E K F (tl, [0, z1, z2, u17, u18, z5, z6, z7, z8, z9, z10, z11, z12, z13, u19, u20, z16, z17, z18, z19, z20], [f21, ar1, f22, f23, f24, ar5, ar6, ar7, ar8, ar9, ar10]) [] H := hT
    exact x_ri hx hb hr hlk hQ (Nat.le_of_ble_eq_true rfl) (Nat.le_of_ble_eq_true rfl) hS dX11_wouldSet_48 (0, u17, u18, u19, u20, f21, f22, f23, f24) ⟨_, rfl⟩ hT.nil
  · refine lv_iload hx hb dX11_wouldSet_21 (lv_at hl 0 rfl) ?_
    exact x_ri hx hb hr hlk hQ (Nat.le_of_ble_eq_true rfl) (Nat.le_of_ble_eq_true rfl) hS dX11_wouldSet_23 (0, z3, z4, z14, z15, ar0, ar2, ar3, ar4) ⟨_, rfl⟩ hT.nil
