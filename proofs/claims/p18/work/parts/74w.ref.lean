theorem z_X11_wouldCut_1 (a0 : Int) (a1 : Int) (a2 : Int) (a3 : Int) (h0 : ¬ (0 ≤ a0 ∧ a0 < 3 ∧ 0 ≤ a1 ∧ a1 < 30) → a3 = -2000) (h1 : (a2 = 1 ∧ a3 ≠ -2000) ∨ (a2 = 0 ∧ a3 = -2000)) (h2 : ¬ (a2 = 0)) : 0 ≤ a0 ∧ a0 < 3 := by omega
theorem z_X11_wouldCut_2 (a0 : Int) (a1 : Int) (a2 : Int) (a3 : Int) (h0 : ¬ (0 ≤ a0 ∧ a0 < 3 ∧ 0 ≤ a1 ∧ a1 < 30) → a3 = -2000) (h1 : (a2 = 1 ∧ a3 ≠ -2000) ∨ (a2 = 0 ∧ a3 = -2000)) (h2 : ¬ (a2 = 0)) : 0 ≤ a1 ∧ a1 < 30 := by omega
theorem z_X11_wouldCut_3 (a0 : Int) (a1 : Int) (h0 : (a0 = 1 ∧ a1 ≠ -2000) ∨ (a0 = 0 ∧ a1 = -2000)) (h1 : ¬ (a0 = 0)) : a1 ≠ -2000 := by omega
theorem z_X11_wouldCut_4 (a0 : Int) (h0 : 0 ≤ a0 ∧ a0 ≤ 360 ∧ a0 % 4 = 0) : ¬ (1000 - a0 < ((0 : Nat) : Int)) := by omega
theorem z_X11_wouldCut_5 (a0 : Int) (h0 : 0 ≤ a0 ∧ a0 ≤ 360 ∧ a0 % 4 = 0) : 0 ≤ a0 := by omega
theorem z_X11_wouldCut_6 (a0 : Int) (h0 : 0 ≤ a0 ∧ a0 ≤ 360 ∧ a0 % 4 = 0) : a0 % 4 = 0 := by omega
theorem z_X11_wouldCut_9 (a0 : Int) (h0 : 0 ≤ a0 ∧ a0 ≤ 360 ∧ a0 % 4 = 0) (h1 : ¬ ((360 : Int) ≤ a0)) : 0 ≤ a0 ∧ a0 < 360 := by omega
theorem z_X11_wouldCut_13 (a0 : Int) (h0 : 0 ≤ a0 ∧ a0 ≤ 360 ∧ a0 % 4 = 0) (h1 : ¬ ((360 : Int) ≤ a0)) : 0 ≤ a0 ∧ a0 < ((360 : Nat) : Int) := by omega
theorem z_X11_wouldCut_15 (a0 : Int) (a1 : Int) (a2 : Int) (h0 : a1 = 0 ∨ a1 = 1) (h1 : a2 = 0 ∨ a2 = 1) (h2 : a0 = (a1 - a2) ∨ (a1 - a2) < -2147483648 ∨ 2147483648 ≤ (a1 - a2)) : a0 = (a1 - a2) := by omega
theorem z_X11_wouldCut_16 (a0 : Int) (a1 : Int) (a2 : Int) (a3 : Int) (a4 : Int) (h0 : -a1 ≤ 4 * a0 ∧ 4 * a0 ≤ a1) (h1 : ¬ ((360 : Int) ≤ a1)) (h2 : a3 = 0 ∨ a3 = 1) (h3 : a4 = 0 ∨ a4 = 1) (h4 : a2 = (a0 + (a3 - a4)) ∨ (a0 + (a3 - a4)) < -2147483648 ∨ 2147483648 ≤ (a0 + (a3 - a4))) : a2 = (a0 + (a3 - a4)) := by omega
theorem z_X11_wouldCut_17 (a0 : Int) (h0 : 1 ≤ a0 ∧ a0 ≤ 4) : ¬ (100 - a0 < ((0 : Nat) : Int)) := by omega
theorem z_X11_wouldCut_21 (a0 : Int) (a1 : Int) (h0 : 0 ≤ a0 ∧ a0 ≤ 360 ∧ a0 % 4 = 0) (h1 : a1 = (a0 + 4) ∨ (a0 + 4) < -2147483648 ∨ 2147483648 ≤ (a0 + 4)) : a1 = (a0 + 4) := by omega
theorem z_X11_wouldCut_22 (a0 : Int) (a1 : Int) (a2 : Int) (a3 : Int) (a4 : Int) (a5 : Nat) (a6 : Nat) (a7 : Int) (a8 : Int) (a9 : Int) (a10 : Int) (a11 : Int) (a12 : Int) (a13 : Int) (a14 : Int) (a15 : Int) (a16 : Int) (h0 : 0 ≤ a3 ∧ a3 ≤ 360 ∧ a3 % 4 = 0) (h1 : a0 = a14 - a16) (h2 : -a3 ≤ 4 * a0 ∧ 4 * a0 ≤ a3) (h3 : a1 = a12) (h4 : 0 ≤ a1 ∧ 4 * a1 ≤ 3 * a3) (h5 : 1000 - a3 < ((a5 + 1 : Nat) : Int)) (h6 : ¬ ((360 : Int) ≤ a3)) (h7 : a13 = a14 + a7) (h8 : a15 = a16 + a8) (h9 : a7 = 0 ∨ a7 = 1) (h10 : a8 = 0 ∨ a8 = 1) (h11 : 1 ≤ a4 ∧ a4 ≤ 4) (h12 : a2 = a12 + a9) (h13 : 0 ≤ a2 ∧ 4 * a2 ≤ 3 * a3 + 4 * (a4 - 1)) (h14 : 100 - a4 < ((a6 + 1 : Nat) : Int)) (h15 : (4 : Int) ≤ a4) (h16 : a4 = 4 → a9 = a10) (h17 : a8 ≠ 1 → a10 = a9) (h18 : a11 = a12 + a10) (r0 : -2147483648 ≤ a0 ∧ a0 < 2147483648) (r1 : -2147483648 ≤ a1 ∧ a1 < 2147483648) (r2 : -2147483648 ≤ a2 ∧ a2 < 2147483648) (r3 : -2147483648 ≤ a3 ∧ a3 < 2147483648) (r4 : -2147483648 ≤ a4 ∧ a4 < 2147483648) (r5 : -2147483648 ≤ a7 ∧ a7 < 2147483648) (r6 : -2147483648 ≤ a8 ∧ a8 < 2147483648) : 0 ≤ (a3 + 4) ∧ (a3 + 4) ≤ 360 ∧ (a3 + 4) % 4 = 0 := by first | (clear h9 h10 h16 h17; omega) | omega
theorem z_X11_wouldCut_23 (a0 : Int) (a1 : Int) (a2 : Int) (a3 : Int) (a4 : Int) (a5 : Int) (a6 : Int) (h0 : a0 = a4 - a6) (h1 : a3 = a4 + a1) (h2 : a5 = a6 + a2) : (a0 + (a1 - a2)) = a3 - a5 := by omega
theorem z_X11_wouldCut_24 (a0 : Int) (a1 : Int) (a2 : Int) (a3 : Int) (h0 : -a1 ≤ 4 * a0 ∧ 4 * a0 ≤ a1) (h1 : a2 = 0 ∨ a2 = 1) (h2 : a3 = 0 ∨ a3 = 1) : -(a1 + 4) ≤ 4 * (a0 + (a2 - a3)) ∧ 4 * (a0 + (a2 - a3)) ≤ (a1 + 4) := by omega
theorem z_X11_wouldCut_25 (a0 : Int) (a1 : Int) (a2 : Int) (a3 : Int) (a4 : Int) (a5 : Int) (h0 : 1 ≤ a1 ∧ a1 ≤ 4) (h1 : a0 = a5 + a2) (h2 : (4 : Int) ≤ a1) (h3 : a1 = 4 → a2 = a3) (h4 : a4 = a5 + a3) : a0 = a4 := by omega
theorem z_X11_wouldCut_26 (a0 : Int) (a1 : Int) (a2 : Int) (h0 : 1 ≤ a2 ∧ a2 ≤ 4) (h1 : 0 ≤ a0 ∧ 4 * a0 ≤ 3 * a1 + 4 * (a2 - 1)) : 0 ≤ a0 ∧ 4 * a0 ≤ 3 * (a1 + 4) := by omega
theorem z_X11_wouldCut_27 (a0 : Int) (a1 : Nat) (h0 : 1000 - a0 < ((a1 + 1 : Nat) : Int)) : 1000 - (a0 + 4) < ((a1 : Nat) : Int) := by omega
theorem z_X11_wouldCut_33 (a0 : Int) (a1 : Int) (a2 : Int) (a3 : Int) (a4 : Int) (a5 : Nat) (a6 : Nat) (a7 : Int) (a8 : Int) (a9 : Int) (a10 : Int) (a11 : Int) (a12 : Int) (a13 : Int) (a14 : Int) (a15 : Int) (a16 : Int) (h0 : 0 ≤ a3 ∧ a3 ≤ 360 ∧ a3 % 4 = 0) (h1 : a0 = a14 - a16) (h2 : -a3 ≤ 4 * a0 ∧ 4 * a0 ≤ a3) (h3 : a1 = a12) (h4 : 0 ≤ a1 ∧ 4 * a1 ≤ 3 * a3) (h5 : 1000 - a3 < ((a5 + 1 : Nat) : Int)) (h6 : ¬ ((360 : Int) ≤ a3)) (h7 : a13 = a14 + a7) (h8 : a15 = a16 + a8) (h9 : a7 = 0 ∨ a7 = 1) (h10 : a8 = 0 ∨ a8 = 1) (h11 : 1 ≤ a4 ∧ a4 ≤ 4) (h12 : a2 = a12 + a9) (h13 : 0 ≤ a2 ∧ 4 * a2 ≤ 3 * a3 + 4 * (a4 - 1)) (h14 : 100 - a4 < ((a6 + 1 : Nat) : Int)) (h15 : ¬ ((4 : Int) ≤ a4)) (h16 : a8 ≠ (1 : Int)) (h17 : a4 = 4 → a9 = a10) (h18 : a8 ≠ 1 → a10 = a9) (h19 : a11 = a12 + a10) (r0 : -2147483648 ≤ a0 ∧ a0 < 2147483648) (r1 : -2147483648 ≤ a1 ∧ a1 < 2147483648) (r2 : -2147483648 ≤ a2 ∧ a2 < 2147483648) (r3 : -2147483648 ≤ a3 ∧ a3 < 2147483648) (r4 : -2147483648 ≤ a4 ∧ a4 < 2147483648) (r5 : -2147483648 ≤ a7 ∧ a7 < 2147483648) (r6 : -2147483648 ≤ a8 ∧ a8 < 2147483648) : 0 ≤ (a3 + 4) ∧ (a3 + 4) ≤ 360 ∧ (a3 + 4) % 4 = 0 := by first | (clear h9 h10 h16 h17 h18; omega) | omega
theorem z_X11_wouldCut_36 (a0 : Int) (a1 : Int) (a2 : Int) (a3 : Int) (a4 : Int) (a5 : Int) (h0 : a0 = a5 + a2) (h1 : a1 ≠ (1 : Int)) (h2 : a1 ≠ 1 → a3 = a2) (h3 : a4 = a5 + a3) : a0 = a4 := by omega
theorem z_X11_wouldCut_37 (a0 : Int) (a1 : Int) (a2 : Int) (h0 : 0 ≤ a0 ∧ 4 * a0 ≤ 3 * a1 + 4 * (a2 - 1)) (h1 : ¬ ((4 : Int) ≤ a2)) : 0 ≤ a0 ∧ 4 * a0 ≤ 3 * (a1 + 4) := by omega
theorem z_X11_wouldCut_39 (a0 : Int) (h0 : 1 ≤ a0 ∧ a0 ≤ 4) : 1 ≤ a0 := by omega
theorem z_X11_wouldCut_40 (a0 : Int) (a1 : Int) (a2 : Int) (a3 : Int) (h0 : ¬ ((360 : Int) ≤ a1)) (h1 : 0 ≤ a0 ∧ 4 * a0 ≤ 3 * a1 + 4 * (a2 - 1)) (h2 : ¬ ((4 : Int) ≤ a2)) (h3 : a3 = (a1 + a2) ∨ (a1 + a2) < -2147483648 ∨ 2147483648 ≤ (a1 + a2)) : a3 = (a1 + a2) := by omega
theorem z_X11_wouldCut_41 (a0 : Int) (a1 : Int) (a2 : Int) (a3 : Int) (a4 : Int) (a5 : Nat) (a6 : Nat) (a7 : Int) (a8 : Int) (a9 : Int) (a10 : Int) (a11 : Int) (a12 : Int) (a13 : Int) (a14 : Int) (a15 : Int) (a16 : Int) (a17 : Int) (a18 : Int) (h0 : 0 ≤ a3 ∧ a3 ≤ 360 ∧ a3 % 4 = 0) (h1 : a0 = a16 - a18) (h2 : -a3 ≤ 4 * a0 ∧ 4 * a0 ≤ a3) (h3 : a1 = a14) (h4 : 0 ≤ a1 ∧ 4 * a1 ≤ 3 * a3) (h5 : 1000 - a3 < ((a5 + 1 : Nat) : Int)) (h6 : ¬ ((360 : Int) ≤ a3)) (h7 : a15 = a16 + a8) (h8 : a17 = a18 + a10) (h9 : a8 = 0 ∨ a8 = 1) (h10 : a10 = 0 ∨ a10 = 1) (h11 : 1 ≤ a4 ∧ a4 ≤ 4) (h12 : a2 = a14 + a13) (h13 : 0 ≤ a2 ∧ 4 * a2 ≤ 3 * a3 + 4 * (a4 - 1)) (h14 : 100 - a4 < ((a6 + 1 : Nat) : Int)) (h15 : ¬ ((4 : Int) ≤ a4)) (h16 : ¬ (a10 ≠ (1 : Int))) (h17 : a12 = a13 + a11) (h18 : a10 = 1 ∧ a7 ≠ a9 → a11 = 1) (h19 : ¬ (a10 = 1 ∧ a7 ≠ a9) → a11 = 0) (r0 : -2147483648 ≤ a0 ∧ a0 < 2147483648) (r1 : -2147483648 ≤ a1 ∧ a1 < 2147483648) (r2 : -2147483648 ≤ a2 ∧ a2 < 2147483648) (r3 : -2147483648 ≤ a3 ∧ a3 < 2147483648) (r4 : -2147483648 ≤ a4 ∧ a4 < 2147483648) (r5 : -2147483648 ≤ a7 ∧ a7 < 2147483648) (r6 : -2147483648 ≤ a8 ∧ a8 < 2147483648) (r7 : -2147483648 ≤ a9 ∧ a9 < 2147483648) (r8 : -2147483648 ≤ a10 ∧ a10 < 2147483648) : 0 ≤ (a3 + a4) ∧ (a3 + a4) < ((360 : Nat) : Int) := by first | (clear h9 h10 h16 h18 h19; omega) | omega
theorem z_X11_wouldCut_43 (a0 : Int) (a1 : Int) (a2 : Int) (a3 : Int) (a4 : Int) (a5 : Nat) (a6 : Nat) (a7 : Int) (a8 : Int) (a9 : Int) (a10 : Int) (a11 : Int) (a12 : Int) (a13 : Int) (a14 : Int) (a15 : Int) (a16 : Int) (a17 : Int) (a18 : Int) (h0 : 0 ≤ a3 ∧ a3 ≤ 360 ∧ a3 % 4 = 0) (h1 : a0 = a16 - a18) (h2 : -a3 ≤ 4 * a0 ∧ 4 * a0 ≤ a3) (h3 : a1 = a14) (h4 : 0 ≤ a1 ∧ 4 * a1 ≤ 3 * a3) (h5 : 1000 - a3 < ((a5 + 1 : Nat) : Int)) (h6 : ¬ ((360 : Int) ≤ a3)) (h7 : a15 = a16 + a8) (h8 : a17 = a18 + a10) (h9 : a8 = 0 ∨ a8 = 1) (h10 : a10 = 0 ∨ a10 = 1) (h11 : 1 ≤ a4 ∧ a4 ≤ 4) (h12 : a2 = a14 + a13) (h13 : 0 ≤ a2 ∧ 4 * a2 ≤ 3 * a3 + 4 * (a4 - 1)) (h14 : 100 - a4 < ((a6 + 1 : Nat) : Int)) (h15 : ¬ ((4 : Int) ≤ a4)) (h16 : ¬ (a10 ≠ (1 : Int))) (h17 : a12 = a13 + a11) (h18 : a10 = 1 ∧ a7 ≠ a9 → a11 = 1) (h19 : ¬ (a10 = 1 ∧ a7 ≠ a9) → a11 = 0) (r0 : -2147483648 ≤ a0 ∧ a0 < 2147483648) (r1 : -2147483648 ≤ a1 ∧ a1 < 2147483648) (r2 : -2147483648 ≤ a2 ∧ a2 < 2147483648) (r3 : -2147483648 ≤ a3 ∧ a3 < 2147483648) (r4 : -2147483648 ≤ a4 ∧ a4 < 2147483648) (r5 : -2147483648 ≤ a7 ∧ a7 < 2147483648) (r6 : -2147483648 ≤ a8 ∧ a8 < 2147483648) (r7 : -2147483648 ≤ a9 ∧ a9 < 2147483648) (r8 : -2147483648 ≤ a10 ∧ a10 < 2147483648) : 0 ≤ (a3 + a4) ∧ (a3 + a4) < ((360 : Nat) : Int) := by first | (clear h9 h10 h16 h18 h19; omega) | omega
theorem z_X11_wouldCut_44 (a0 : Int) (a1 : Int) (h0 : a1 = (a0 + (0 : Int)) ∨ (a0 + (0 : Int)) < -2147483648 ∨ 2147483648 ≤ (a0 + (0 : Int))) (h1 : -2147483648 ≤ a0 ∧ a0 < 2147483648) : a1 = (a0 + (0 : Int)) := by omega
theorem z_X11_wouldCut_45 (a0 : Int) (a1 : Int) (h0 : 1 ≤ a0 ∧ a0 ≤ 4) (h1 : a1 = (a0 + 1) ∨ (a0 + 1) < -2147483648 ∨ 2147483648 ≤ (a0 + 1)) : a1 = (a0 + 1) := by omega
theorem z_X11_wouldCut_46 (a0 : Int) (h0 : 1 ≤ a0 ∧ a0 ≤ 4) (h1 : ¬ ((4 : Int) ≤ a0)) : 1 ≤ (a0 + 1) ∧ (a0 + 1) ≤ 4 := by omega
theorem z_X11_wouldCut_47 (a0 : Int) (a1 : Int) (a2 : Int) (a3 : Int) (a4 : Int) (a5 : Int) (a6 : Int) (a7 : Int) (h0 : a0 = a7 + a6) (h1 : a5 = a6 + a4) (h2 : ¬ (a3 = 1 ∧ a1 ≠ a2) → a4 = 0) (h3 : a1 = a2) : (a0 + (0 : Int)) = a7 + a5 := by omega
theorem z_X11_wouldCut_48 (a0 : Int) (a1 : Int) (a2 : Int) (h0 : 0 ≤ a0 ∧ 4 * a0 ≤ 3 * a1 + 4 * (a2 - 1)) : 0 ≤ (a0 + (0 : Int)) ∧ 4 * (a0 + (0 : Int)) ≤ 3 * a1 + 4 * ((a2 + 1) - 1) := by omega
theorem z_X11_wouldCut_49 (a0 : Int) (a1 : Nat) (h0 : 100 - a0 < ((a1 + 1 : Nat) : Int)) : 100 - (a0 + 1) < ((a1 : Nat) : Int) := by omega
theorem z_X11_wouldCut_50 (a0 : Int) (a1 : Int) (a2 : Int) (a3 : Int) (h0 : ¬ ((360 : Int) ≤ a1)) (h1 : 0 ≤ a0 ∧ 4 * a0 ≤ 3 * a1 + 4 * (a2 - 1)) (h2 : ¬ ((4 : Int) ≤ a2)) (h3 : a3 = (a0 + (1 : Int)) ∨ (a0 + (1 : Int)) < -2147483648 ∨ 2147483648 ≤ (a0 + (1 : Int))) : a3 = (a0 + (1 : Int)) := by omega
theorem z_X11_wouldCut_53 (a0 : Int) (a1 : Int) (a2 : Int) (a3 : Int) (a4 : Int) (a5 : Int) (a6 : Int) (a7 : Int) (h0 : a0 = a7 + a6) (h1 : ¬ (a3 ≠ (1 : Int))) (h2 : a5 = a6 + a4) (h3 : a3 = 1 ∧ a1 ≠ a2 → a4 = 1) (h4 : ¬ (a1 = a2)) : (a0 + (1 : Int)) = a7 + a5 := by omega
theorem z_X11_wouldCut_54 (a0 : Int) (a1 : Int) (a2 : Int) (h0 : 0 ≤ a0 ∧ 4 * a0 ≤ 3 * a1 + 4 * (a2 - 1)) : 0 ≤ (a0 + (1 : Int)) ∧ 4 * (a0 + (1 : Int)) ≤ 3 * a1 + 4 * ((a2 + 1) - 1) := by omega
theorem z_X11_wouldCut_56 (a0 : Int) (a1 : Int) (a2 : Int) (h0 : a0 = a2) (h1 : a1 = 0) : a0 = a2 + a1 := by omega
theorem z_X11_wouldCut_57 (a0 : Int) (a1 : Int) (h0 : 0 ≤ a0 ∧ 4 * a0 ≤ 3 * a1) : 0 ≤ a0 ∧ 4 * a0 ≤ 3 * a1 + 4 * ((1 : Int) - 1) := by omega
theorem z_X11_wouldCut_58 (a0 : Int) (a1 : Int) (h0 : a0 = 0) (h1 : a1 = 0) : (0 : Int) = a0 - a1 := by omega
theorem z_X11_wouldCut_59 (a0 : Int) (h0 : a0 = 0) : (0 : Int) = a0 := by omega
abbrev rm_X11_wouldCut : Room := { frames := 8, cells := 0, slots := 0, locals := 187 }
set_option maxHeartbeats 4000000 in
set_option maxRecDepth 100000 in
theorem c_X11_wouldCut (l : Launch) (E : XE) (K : Nat → Nat) (F : Nat → Nat → Nat) (G : XG) (a : Nat) (p0 : Int32) (p1 : Int32) (p2 : Int32) (ha : K a = 13) (hR : RV (G.2.1 (F a 10))) (hM : RM (G.2.1 (F a 1)) (0)) : Met l yX11_wouldCut (xw yX11_wouldCut cX11_wouldCut 8 (some .int)) rm_X11_wouldCut (va_Pc [.ref a, .int p0, .int p1, .int p2] (XP E K F G)) (XQ E (fun v (u : XG) => ∃ r : Int32, v = .int r ∧ XFr [(a, 16), (a, 19), (a, 45), (a, 46), (a, 0)] [F a 15, F a 17, F a 18, F a 11, F a 1, F a 4, F a 12, F a 47, F a 48, F a 49, F a 50] [] G u ∧ (mw (u.2.1 (F a 1)) 0 = mw (G.2.1 (F a 1)) 0) ∧ (RM (u.2.1 (F a 1)) 0) ∧ ((¬ (cel (mw (G.2.1 (F a 1)) 0) p0.toInt p1.toInt 0 ≠ -2000 ∧ 0 ≤ p2.toInt ∧ p2.toInt ≤ 2) ∧ r.toInt = -1) ∨ ((cel (mw (G.2.1 (F a 1)) 0) p0.toInt p1.toInt 0 ≠ -2000 ∧ 0 ≤ p2.toInt ∧ p2.toInt ≤ 2) ∧ ((p2.toInt = 0 ∧ ∃ f0 f1 : Nat → Int32, (RM f0 0 ∧ mw f0 0 = (mw (G.2.1 (F a 1)) 0)) ∧ (RM f1 0 ∧ mw f1 0 = cfin (refA (G.2.1 (F a 10))) (refT (G.2.1 (F a 10))) (refC (G.2.1 (F a 10))) ([(p0.toInt, p1.toInt, 0, 0)], rfil (mw (G.2.1 (F a 1)) 0) p0.toInt p1.toInt (-2000) 3)) ∧ r.toInt = rmT f0 360 - rmT f1 360) ∨ (p2.toInt = 1 ∧ ∃ f0 f1 : Nat → Int32, (RM f0 0 ∧ mw f0 0 = (mw (G.2.1 (F a 1)) 0)) ∧ (RM f1 0 ∧ mw f1 0 = cfin (refA (G.2.1 (F a 10))) (refT (G.2.1 (F a 10))) (refC (G.2.1 (F a 10))) ([(p0.toInt, p1.toInt, 0, 0)], rfil (mw (G.2.1 (F a 1)) 0) p0.toInt p1.toInt (-2000) 3)) ∧ r.toInt = clT f0 f1 360) ∨ (p2.toInt = 2 ∧ AnsM ((G.1 a 6).toInt) r.toInt (G.2.1 (F a 10)) (mw (G.2.1 (F a 1)) 0) (cfin (refA (G.2.1 (F a 10))) (refT (G.2.1 (F a 10))) (refC (G.2.1 (F a 10))) ([(p0.toInt, p1.toInt, 0, 0)], rfil (mw (G.2.1 (F a 1)) 0) p0.toInt p1.toInt (-2000) 3))))))) (fun u H => TW E K F u H)) 0 0 (xA E) := by
  refine x_enter (by decide) (Nat.le_of_ble_eq_true rfl) ?_
  intro p e s m args below meth c Q S hr hlk hnm hQ hP ls hl
  obtain ⟨hz, hK, hT⟩ := hP
  obtain ⟨hx, hb, -, -, -⟩ := id S
  obtain ⟨H, hT, hS, hgo⟩ : ∃ H : Heap, TW E K F G H ∧ va_S (xA E) s.heap H [] ∧ H = s.heap := ⟨_, hT, va_S.rf, rfl⟩
  rw [← hgo]
  have hl : lv_has ls 8 [(0, .ref a), (1, .int p0), (2, .int p1), (3, .int p2)] := hl
  obtain ⟨hk9999, hj9999⟩ := fkX11_15 hT ha
  obtain ⟨hk9999a, hj9999a⟩ := fkX11_17 hT ha
  obtain ⟨hk9999b, hj9999b⟩ := fkX11_18 hT ha
  obtain ⟨hk9999c, hj9999c⟩ := fkX11_11 hT ha
  obtain ⟨hk9999d, hj9999d⟩ := fkX11_1 hT ha
  obtain ⟨hk9999e, hj9999e⟩ := fkX11_4 hT ha
  obtain ⟨hk9999f, hj9999f⟩ := fkX11_12 hT ha
  obtain ⟨hk9999g, hj9999g⟩ := fkX11_47 hT ha
  obtain ⟨hk9999h, hj9999h⟩ := fkX11_48 hT ha
  obtain ⟨hk9999i, hj9999i⟩ := fkX11_49 hT ha
  obtain ⟨hk9999j, hj9999j⟩ := fkX11_50 hT ha
  obtain ⟨hk9999k, hj9999k⟩ := fkX11_10 hT ha
  refine lv_aload_n hx hb dX11_wouldCut_0 rfl (lv_at hl 0 rfl) ?_
  refine lv_iconst (v := 0) hx hb dX11_wouldCut_1 (by decide) ?_
  refine pX11_0 (v := 0) S hK hT hS ha kf_X11_134 dX11_wouldCut_2 (fun H locs hT hS => ?_)
  obtain ⟨G2, hG2⟩ : ∃ GG : XG, GG = dput G a 0 0 := ⟨_, rfl⟩
  rw [← hG2] at hT
  have z5 : ¬ (0 ≤ p0.toInt ∧ p0.toInt < 3 ∧ 0 ≤ p1.toInt ∧ p1.toInt < 30) → (cel (mw (G.2.1 (F a 1)) 0) (p0.toInt) (p1.toInt) 0) = -2000 := fun h9 => cel_out (by omega)
  refine lv_aload_n hx hb dX11_wouldCut_5 rfl (lv_at hl 0 rfl) ?_
  refine lv_iload_n hx hb dX11_wouldCut_6 rfl (lv_at hl 1 rfl) ?_
  refine lv_iload_n hx hb dX11_wouldCut_7 rfl (lv_at hl 2 rfl) ?_
  refine x_clp (x_runV (b := a) (As := [.int p0, .int p1]) (rest := []) S (c_X11_isRow l E K F G2 H a p0 p1 ha (v_X11_wouldCut_8_1 (F := F) a G2 G hM (ld_c hG2))) mv_X11_isRow km_X11_346 rfl rfl ⟨Nat.le_of_ble_eq_true rfl, Nat.le_of_ble_eq_true rfl⟩ (rc_13 hK hT ha) hK (fun _ => XPh.blind) (fun U hU hW => XPh.at hK hz hS hT hU hW) rfl hl.1 (Nat.le_of_ble_eq_true rfl) dX11_wouldCut_8 ⟨Nat.le_of_ble_eq_true rfl, Nat.le_of_ble_eq_true rfl⟩) hS ?_
  rintro _ _ locs ⟨x8, rfl, b8, t8⟩ hS
  have t8 : (x8.toInt = 1 ∧ (cel (mw (G.2.1 (F a 1)) 0) (p0.toInt) (p1.toInt) 0) ≠ -2000) ∨ (x8.toInt = 0 ∧ (cel (mw (G.2.1 (F a 1)) 0) (p0.toInt) (p1.toInt) 0) = -2000) := by rw [(show G2.2.1 (F a 1) = G.2.1 (F a 1) from (ld_c hG2))] at t8; exact t8
  refine xi_zeq (tgt := 26) hx hb (rfl : Int32.toInt x8 = x8.toInt) dX11_wouldCut_11 (by decide) (fun c11 => ?_) (fun c11 => ?_)
  · refine lv_iconst (v := (-1)) hx hb dX11_wouldCut_26 (by decide) ?_
    exact x_ri hx hb hr hlk hQ (Nat.le_of_ble_eq_true rfl) (Nat.le_of_ble_eq_true rfl) hS dX11_wouldCut_27 G2 ⟨_, rfl, (by rw [hG2]; exact XFr.dput XFr.rf (List.mem_of_getElem? (i := 4) rfl)), (v_X11_wouldCut_27_2 (F := F) G2 a G (ld_c hG2)), (v_X11_wouldCut_27_3 (F := F) G a G2 hM (ld_c hG2)), (by rw [((by decide) : Int32.toInt (-1) = (-1 : Int))] <;> exact (v_X11_wouldCut_27_4 (K := K) (F := F) a G p0 p1 x8 p2 ha z5 t8 c11))⟩ hT
  · refine lv_iload_n hx hb dX11_wouldCut_14 rfl (lv_at hl 3 rfl) ?_
    refine lv_i2l (v := p2.toInt64) hx hb dX11_wouldCut_15 rfl ?_
    refine lv_lconst (v := (0 : Int64)) hx hb dX11_wouldCut_16 (by decide) ?_
    refine lv_ldc2 (v := 2) hx hb S.2.2.2.1 (S.2.2.2.2 _ (List.mem_cons_of_mem _ kc_X11_137)) dX11_wouldCut_17 ?_
    refine x_clp (x_runS (As := [.long p2.toInt64, .long (0 : Int64), .long (2 : Int64)]) (rest := []) S (c_X11_in l E K F G2 H p2.toInt64 p2.toInt (0 : Int64) (0 : Int) (2 : Int64) (2 : Int) (xl_i2l (rfl : Int32.toInt p2 = p2.toInt)) (by decide) (by decide)) ms_X11_in km_X11_139 rfl rfl ⟨Nat.le_of_ble_eq_true rfl, Nat.le_of_ble_eq_true rfl⟩ hK (fun _ => XPh.blind) (fun U hU hW => XPh.at hK hz hS hT hU hW) rfl hl.1 (Nat.le_of_ble_eq_true rfl) dX11_wouldCut_20 ⟨Nat.le_of_ble_eq_true rfl, Nat.le_of_ble_eq_true rfl⟩) hS ?_
    rintro _ _ locs ⟨x20, rfl, b20, t20⟩ hS
    have t20 : (x20.toInt = 1 ∧ (0 : Int) ≤ p2.toInt ∧ p2.toInt ≤ (2 : Int)) ∨ (x20.toInt = 0 ∧ (p2.toInt < (0 : Int) ∨ (2 : Int) < p2.toInt)) := t20
    refine xi_zne (tgt := 28) hx hb (rfl : Int32.toInt x20 = x20.toInt) dX11_wouldCut_23 (by decide) (fun c23 => ?_) (fun c23 => ?_)
    · refine lv_aload_n hx hb dX11_wouldCut_28 rfl (lv_at hl 0 rfl) ?_
      refine x_cv0 (x_runV (b := a) (As := []) (rest := []) S (c_X11_start l E K F G2 a ha (v_X11_wouldCut_29_5 (F := F) a G2 G hR (ld_c hG2)) (v_X11_wouldCut_29_6 (F := F) a G2 G hM (ld_c hG2))) mv_X11_start km_X11_350 rfl rfl ⟨Nat.le_of_ble_eq_true rfl, Nat.le_of_ble_eq_true rfl⟩ (rc_13 hK hT ha) hK (fun _ => XP.blind) (fun U hU hW => XP.at hK hz hS hT hU hW) rfl hl.1 (Nat.le_of_ble_eq_true rfl) dX11_wouldCut_29 ⟨Nat.le_of_ble_eq_true rfl, Nat.le_of_ble_eq_true rfl⟩) hS ?_
      rintro G29 H locs ⟨hF29, oq29, oq29a, oq29b⟩ hT hS
      have oq29 : mw (G29.2.1 (F a 4)) 0 = mw (G.2.1 (F a 1)) 0 := by simp only [(show G2.2.1 (F a 1) = G.2.1 (F a 1) from (ld_c hG2))] at oq29; exact oq29
      have oq29b : LSt (G.2.1 (F a 10)) (G29.2.1 (F a 12)) (mw (G.2.1 (F a 1)) 0) 12 := by simp only [(show G2.2.1 (F a 10) = G.2.1 (F a 10) from (ld_c hG2)), (show G2.2.1 (F a 1) = G.2.1 (F a 1) from (ld_c hG2))] at oq29b; exact oq29b
      refine lv_aload_n hx hb dX11_wouldCut_32 rfl (lv_at hl 0 rfl) ?_
      refine lv_iload_n hx hb dX11_wouldCut_33 rfl (lv_at hl 1 rfl) ?_
      refine lv_iload_n hx hb dX11_wouldCut_34 rfl (lv_at hl 2 rfl) ?_
      refine x_cv0 (x_runV (b := a) (As := [.int p0, .int p1]) (rest := []) S (c_X11_cutAll l E K F G29 a p0 p1 ha (z_X11_wouldCut_1 p0.toInt p1.toInt x8.toInt (cel (mw (G.2.1 (F a 1)) 0) (p0.toInt) (p1.toInt) 0) z5 t8 c11) (z_X11_wouldCut_2 p0.toInt p1.toInt x8.toInt (cel (mw (G.2.1 (F a 1)) 0) (p0.toInt) (p1.toInt) 0) z5 t8 c11) (by rw [(show G29.2.1 (F a 1) = G.2.1 (F a 1) from ((hF29.2.1 _ (xn1 (xne_k hk9999d hk9999e (by decide)) (xn1 (xne_k hk9999d hk9999f (by decide)) xn0))).trans (ld_c hG2)))] <;> exact (z_X11_wouldCut_3 x8.toInt (cel (mw (G.2.1 (F a 1)) 0) (p0.toInt) (p1.toInt) 0) t8 c11)) (v_X11_wouldCut_35_7 (F := F) a G G29 hR ((hF29.2.1 _ (xn1 (xne_k hk9999k hk9999e (by decide)) (xn1 (xne_k hk9999k hk9999f (by decide)) xn0))).trans (ld_c hG2))) (v_X11_wouldCut_35_8 (F := F) a G G29 hM oq29a ((hF29.2.1 _ (xn1 (xne_k hk9999d hk9999e (by decide)) (xn1 (xne_k hk9999d hk9999f (by decide)) xn0))).trans (ld_c hG2)))) mv_X11_cutAll km_X11_370 rfl rfl ⟨Nat.le_of_ble_eq_true rfl, Nat.le_of_ble_eq_true rfl⟩ (rc_13 hK hT ha) hK (fun _ => XP.blind) (fun U hU hW => XP.at hK hz hS hT hU hW) rfl hl.1 (Nat.le_of_ble_eq_true rfl) dX11_wouldCut_35 ⟨Nat.le_of_ble_eq_true rfl, Nat.le_of_ble_eq_true rfl⟩) hS ?_
      rintro G35 H locs ⟨hF35, oq35, oq35a⟩ hT hS
      have oq35 : mw (G35.2.1 (F a 1)) 0 = cfin (refA (G.2.1 (F a 10))) (refT (G.2.1 (F a 10))) (refC (G.2.1 (F a 10))) ([(p0.toInt, p1.toInt, 0, 0)], rfil (mw (G.2.1 (F a 1)) 0) p0.toInt p1.toInt (-2000) 3) := by simp only [(show G29.2.1 (F a 10) = G.2.1 (F a 10) from ((hF29.2.1 _ (xn1 (xne_k hk9999k hk9999e (by decide)) (xn1 (xne_k hk9999k hk9999f (by decide)) xn0))).trans (ld_c hG2))), (show G29.2.1 (F a 1) = G.2.1 (F a 1) from ((hF29.2.1 _ (xn1 (xne_k hk9999d hk9999e (by decide)) (xn1 (xne_k hk9999d hk9999f (by decide)) xn0))).trans (ld_c hG2)))] at oq35; exact oq35
      refine lv_iconst (v := 0) hx hb dX11_wouldCut_38 (by decide) ?_
      refine lv_istore (lv' := [(4, .int 0), (0, .ref a), (1, .int p0), (2, .int p1), (3, .int p2)]) hx hb dX11_wouldCut_39 hl (by decide) rfl (fun ls hl => ?_)
      refine lv_iconst (v := 0) hx hb dX11_wouldCut_41 (by decide) ?_
      refine lv_istore (lv' := [(5, .int 0), (4, .int 0), (0, .ref a), (1, .int p0), (2, .int p1), (3, .int p2)]) hx hb dX11_wouldCut_42 hl (by decide) rfl (fun ls hl => ?_)
      have z44 : (rmT (G29.2.1 (F a 4)) 0) = 0 := rmT_0 _
      have z44a : (rmT (G35.2.1 (F a 1)) 0) = 0 := rmT_0 _
      have z44b : (clT (G29.2.1 (F a 4)) (G35.2.1 (F a 1)) 0) = 0 := clT_0 _ _
      refine lv_iconst (v := 0) hx hb dX11_wouldCut_44 (by decide) ?_
      refine lv_istore (lv' := [(6, .int 0), (5, .int 0), (4, .int 0), (0, .ref a), (1, .int p0), (2, .int p1), (3, .int p2)]) hx hb dX11_wouldCut_45 hl (by decide) rfl (fun ls hl => ?_)
      have L47 : ∀ (N47 : Nat) (l4_47 : Int32) (l5_47 : Int32) (l6_47 : Int32) (H : Heap) (locs : List Loc) (ls : Array Slot), 0 ≤ l6_47.toInt ∧ l6_47.toInt ≤ 360 ∧ l6_47.toInt % 4 = 0 → l4_47.toInt = (rmT (G29.2.1 (F a 4)) (l6_47.toInt)) - (rmT (G35.2.1 (F a 1)) (l6_47.toInt)) → -l6_47.toInt ≤ 4 * l4_47.toInt ∧ 4 * l4_47.toInt ≤ l6_47.toInt → l5_47.toInt = (clT (G29.2.1 (F a 4)) (G35.2.1 (F a 1)) (l6_47.toInt)) → 0 ≤ l5_47.toInt ∧ 4 * l5_47.toInt ≤ 3 * l6_47.toInt → 1000 - l6_47.toInt < ((N47 : Nat) : Int) → TW E K F G35 H → va_S (xA E) s.heap H locs → lv_has ls 8 [(0, .ref a), (3, .int p2), (4, .int l4_47), (5, .int l5_47), (6, .int l6_47)] → W p l e rm_X11_wouldCut s m args below meth c H locs 0 0 Q (F0 m 47 ls []) := by
        intro N47
        induction N47 with
        | zero =>
          intro l4_47 l5_47 l6_47 H locs ls I47_0 I47_1 I47_2 I47_3 I47_4 hm47
          exact absurd hm47 (z_X11_wouldCut_4 l6_47.toInt I47_0)
        | succ N47 ih47 =>
          intro l4_47 l5_47 l6_47 H locs ls I47_0 I47_1 I47_2 I47_3 I47_4 hm47 hT hS hl
          refine lv_iload hx hb dX11_wouldCut_47 (lv_at hl 4 rfl) ?_
          refine lv_sipush (v := 360) hx hb dX11_wouldCut_49 (by decide) ?_
          refine xi_cge (tgt := 140) hx hb (rfl : Int32.toInt l6_47 = l6_47.toInt) ((by decide) : Int32.toInt 360 = (360 : Int)) dX11_wouldCut_52 (by decide) (fun c52 => ?_) (fun c52 => ?_)
          · have z140 : l6_47.toInt = 360 → (rmT (G29.2.1 (F a 4)) (l6_47.toInt)) = (rmT (G29.2.1 (F a 4)) 360) := fun h9 => by rw [h9]
            have z140a : l6_47.toInt = 360 → (rmT (G35.2.1 (F a 1)) (l6_47.toInt)) = (rmT (G35.2.1 (F a 1)) 360) := fun h9 => by rw [h9]
            have z140b : l6_47.toInt = 360 → (clT (G29.2.1 (F a 4)) (G35.2.1 (F a 1)) (l6_47.toInt)) = (clT (G29.2.1 (F a 4)) (G35.2.1 (F a 1)) 360) := fun h9 => by rw [h9]
            refine lv_aload_n hx hb dX11_wouldCut_140 rfl (lv_at hl 0 rfl) ?_
            refine x_cl0 (x_runV (b := a) (As := []) (rest := []) S (c_X11_wouldTell l E K F G35 a (mw (G.2.1 (F a 1)) 0) ha (v_X11_wouldCut_141_9 (F := F) a G G35 hR ((hF35.2.1 _ (xn1 (xne_k hk9999k hk9999g (by decide)) (xn1 (xne_k hk9999k hk9999h (by decide)) (xn1 (xne_k hk9999k hk9999i (by decide)) (xn1 (xne_k hk9999k hk9999j (by decide)) (xn1 (xne_k hk9999k hk9999d (by decide)) xn0)))))).trans ((hF29.2.1 _ (xn1 (xne_k hk9999k hk9999e (by decide)) (xn1 (xne_k hk9999k hk9999f (by decide)) xn0))).trans (ld_c hG2)))) (v_X11_wouldCut_141_10 (F := F) G35 a oq35a) (v_X11_wouldCut_141_11 (F := F) G29 a G35 oq29a (hF35.2.1 _ (xn1 (xne_k hk9999e hk9999g (by decide)) (xn1 (xne_k hk9999e hk9999h (by decide)) (xn1 (xne_k hk9999e hk9999i (by decide)) (xn1 (xne_k hk9999e hk9999j (by decide)) (xn1 (xne_k hk9999e hk9999d (by decide)) xn0))))))) (v_X11_wouldCut_141_12 (F := F) G a G29 G35 oq29b ((hF35.2.1 _ (xn1 (xne_k hk9999k hk9999g (by decide)) (xn1 (xne_k hk9999k hk9999h (by decide)) (xn1 (xne_k hk9999k hk9999i (by decide)) (xn1 (xne_k hk9999k hk9999j (by decide)) (xn1 (xne_k hk9999k hk9999d (by decide)) xn0)))))).trans ((hF29.2.1 _ (xn1 (xne_k hk9999k hk9999e (by decide)) (xn1 (xne_k hk9999k hk9999f (by decide)) xn0))).trans (ld_c hG2))) (hF35.2.1 _ (xn1 (xne_k hk9999f hk9999g (by decide)) (xn1 (xne_k hk9999f hk9999h (by decide)) (xn1 (xne_k hk9999f hk9999i (by decide)) (xn1 (xne_k hk9999f hk9999j (by decide)) (xn1 (xne_k hk9999f hk9999d (by decide)) xn0)))))))) mv_X11_wouldTell km_X11_389 rfl rfl ⟨Nat.le_of_ble_eq_true rfl, Nat.le_of_ble_eq_true rfl⟩ (rc_13 hK hT ha) hK (fun _ => XP.blind) (fun U hU hW => XP.at hK hz hS hT hU hW) rfl hl.1 (Nat.le_of_ble_eq_true rfl) dX11_wouldCut_141 ⟨Nat.le_of_ble_eq_true rfl, Nat.le_of_ble_eq_true rfl⟩) hS ?_
            rintro _ G141 H locs ⟨x141, rfl, hF141, oq141, oq141a, oq141b⟩ hT hS
            have oq141 : AnsM ((G.1 a 6).toInt) x141.toInt (G.2.1 (F a 10)) (mw (G.2.1 (F a 1)) 0) (mw (G35.2.1 (F a 1)) 0) := by simp only [(show G35.1 a 6 = G.1 a 6 from ((hF35.1 _ _ xn0).trans ((hF29.1 _ _ xn0).trans (ld_j hG2 (by decide))))), (show G35.2.1 (F a 10) = G.2.1 (F a 10) from ((hF35.2.1 _ (xn1 (xne_k hk9999k hk9999g (by decide)) (xn1 (xne_k hk9999k hk9999h (by decide)) (xn1 (xne_k hk9999k hk9999i (by decide)) (xn1 (xne_k hk9999k hk9999j (by decide)) (xn1 (xne_k hk9999k hk9999d (by decide)) xn0)))))).trans ((hF29.2.1 _ (xn1 (xne_k hk9999k hk9999e (by decide)) (xn1 (xne_k hk9999k hk9999f (by decide)) xn0))).trans (ld_c hG2))))] at oq141; exact oq141
            have oq141a : mw (G141.2.1 (F a 1)) 0 = mw (G29.2.1 (F a 4)) 0 := by simp only [(show G35.2.1 (F a 4) = G29.2.1 (F a 4) from (hF35.2.1 _ (xn1 (xne_k hk9999e hk9999g (by decide)) (xn1 (xne_k hk9999e hk9999h (by decide)) (xn1 (xne_k hk9999e hk9999i (by decide)) (xn1 (xne_k hk9999e hk9999j (by decide)) (xn1 (xne_k hk9999e hk9999d (by decide)) xn0)))))))] at oq141a; exact oq141a
            refine lv_istore (lv' := [(6, .int x141), (0, .ref a), (3, .int p2), (4, .int l4_47), (5, .int l5_47)]) hx hb dX11_wouldCut_144 hl (by decide) rfl (fun ls hl => ?_)
            refine lv_iload_n hx hb dX11_wouldCut_146 rfl (lv_at hl 2 rfl) ?_
            refine xi_zne (tgt := 155) hx hb (rfl : Int32.toInt p2 = p2.toInt) dX11_wouldCut_147 (by decide) (fun c147 => ?_) (fun c147 => ?_)
            · refine lv_iload_n hx hb dX11_wouldCut_155 rfl (lv_at hl 2 rfl) ?_
              refine lv_iconst (v := 1) hx hb dX11_wouldCut_156 (by decide) ?_
              refine xi_cne (tgt := 165) hx hb (rfl : Int32.toInt p2 = p2.toInt) ((by decide) : Int32.toInt 1 = (1 : Int)) dX11_wouldCut_157 (by decide) (fun c157 => ?_) (fun c157 => ?_)
              · refine lv_iload hx hb dX11_wouldCut_165 (lv_at hl 0 rfl) ?_
                exact x_ri hx hb hr hlk hQ (Nat.le_of_ble_eq_true rfl) (Nat.le_of_ble_eq_true rfl) hS dX11_wouldCut_167 G141 ⟨_, rfl, (XFr.call (XFr.call (XFr.call (by rw [hG2]; exact XFr.dput XFr.rf (List.mem_of_getElem? (i := 4) rfl)) hF29 xm0 (xm1 5 rfl (xm1 6 rfl xm0)) xm0) hF35 xm0 (xm1 7 rfl (xm1 8 rfl (xm1 9 rfl (xm1 10 rfl (xm1 4 rfl xm0))))) xm0) hF141 (xm1 0 rfl (xm1 1 rfl (xm1 2 rfl (xm1 3 rfl xm0)))) (xm1 0 rfl (xm1 1 rfl (xm1 2 rfl (xm1 3 rfl (xm1 4 rfl xm0))))) xm0), (v_X11_wouldCut_167_13 (F := F) G29 a G G141 oq29 oq141a), (v_X11_wouldCut_167_14 (F := F) G141 a oq141b), (v_X11_wouldCut_167_15 (K := K) (F := F) a G G29 G35 p0 p1 x141 x8 x20 p2 l6_47 l4_47 l5_47 N47 ha oq29 oq29a oq35 oq35a oq141 z5 t8 c11 t20 c23 z44 z44a z44b I47_0 I47_1 I47_2 I47_3 I47_4 hm47 c52 z140 z140a z140b c147 c157)⟩ hT
              · refine lv_iload hx hb dX11_wouldCut_160 (lv_at hl 4 rfl) ?_
                refine lv_goto (tgt := 167) hx hb dX11_wouldCut_162 (by decide) ?_
                exact x_ri hx hb hr hlk hQ (Nat.le_of_ble_eq_true rfl) (Nat.le_of_ble_eq_true rfl) hS dX11_wouldCut_167 G141 ⟨_, rfl, (XFr.call (XFr.call (XFr.call (by rw [hG2]; exact XFr.dput XFr.rf (List.mem_of_getElem? (i := 4) rfl)) hF29 xm0 (xm1 5 rfl (xm1 6 rfl xm0)) xm0) hF35 xm0 (xm1 7 rfl (xm1 8 rfl (xm1 9 rfl (xm1 10 rfl (xm1 4 rfl xm0))))) xm0) hF141 (xm1 0 rfl (xm1 1 rfl (xm1 2 rfl (xm1 3 rfl xm0)))) (xm1 0 rfl (xm1 1 rfl (xm1 2 rfl (xm1 3 rfl (xm1 4 rfl xm0))))) xm0), (v_X11_wouldCut_167_16 (F := F) G29 a G G141 oq29 oq141a), (v_X11_wouldCut_167_17 (F := F) G141 a oq141b), (v_X11_wouldCut_167_18 (K := K) (F := F) a G G29 G35 p0 p1 x141 x8 x20 p2 l6_47 l4_47 l5_47 N47 ha oq29 oq29a oq35 oq35a oq141 z5 t8 c11 t20 c23 z44 z44a z44b I47_0 I47_1 I47_2 I47_3 I47_4 hm47 c52 z140 z140a z140b c147 c157)⟩ hT
            · refine lv_iload hx hb dX11_wouldCut_150 (lv_at hl 3 rfl) ?_
              refine lv_goto (tgt := 167) hx hb dX11_wouldCut_152 (by decide) ?_
              exact x_ri hx hb hr hlk hQ (Nat.le_of_ble_eq_true rfl) (Nat.le_of_ble_eq_true rfl) hS dX11_wouldCut_167 G141 ⟨_, rfl, (XFr.call (XFr.call (XFr.call (by rw [hG2]; exact XFr.dput XFr.rf (List.mem_of_getElem? (i := 4) rfl)) hF29 xm0 (xm1 5 rfl (xm1 6 rfl xm0)) xm0) hF35 xm0 (xm1 7 rfl (xm1 8 rfl (xm1 9 rfl (xm1 10 rfl (xm1 4 rfl xm0))))) xm0) hF141 (xm1 0 rfl (xm1 1 rfl (xm1 2 rfl (xm1 3 rfl xm0)))) (xm1 0 rfl (xm1 1 rfl (xm1 2 rfl (xm1 3 rfl (xm1 4 rfl xm0))))) xm0), (v_X11_wouldCut_167_19 (F := F) G29 a G G141 oq29 oq141a), (v_X11_wouldCut_167_20 (F := F) G141 a oq141b), (v_X11_wouldCut_167_21 (K := K) (F := F) a G G29 G35 p0 p1 x141 x8 x20 p2 l6_47 l4_47 l5_47 N47 ha oq29 oq29a oq35 oq35a oq141 z5 t8 c11 t20 c23 z44 z44a z44b I47_0 I47_1 I47_2 I47_3 I47_4 hm47 c52 z140 z140a z140b c147)⟩ hT
          · have z55 : (rmT (G29.2.1 (F a 4)) (l6_47.toInt + 4)) = (rmT (G29.2.1 (F a 4)) (l6_47.toInt)) + (aI (G29.2.1 (F a 4)) (l6_47.toInt)) := rmT_s _ (z_X11_wouldCut_5 l6_47.toInt I47_0) (z_X11_wouldCut_6 l6_47.toInt I47_0)
            have z55a : (rmT (G35.2.1 (F a 1)) (l6_47.toInt + 4)) = (rmT (G35.2.1 (F a 1)) (l6_47.toInt)) + (aI (G35.2.1 (F a 1)) (l6_47.toInt)) := rmT_s _ (z_X11_wouldCut_5 l6_47.toInt I47_0) (z_X11_wouldCut_6 l6_47.toInt I47_0)
            have z55b : (aI (G29.2.1 (F a 4)) (l6_47.toInt)) = 0 ∨ (aI (G29.2.1 (F a 4)) (l6_47.toInt)) = 1 := oq29a.is (z_X11_wouldCut_9 l6_47.toInt I47_0 c52) (z_X11_wouldCut_6 l6_47.toInt I47_0)
            have z55c : (aI (G35.2.1 (F a 1)) (l6_47.toInt)) = 0 ∨ (aI (G35.2.1 (F a 1)) (l6_47.toInt)) = 1 := oq35a.is (z_X11_wouldCut_9 l6_47.toInt I47_0 c52) (z_X11_wouldCut_6 l6_47.toInt I47_0)
            refine lv_iload hx hb dX11_wouldCut_55 (lv_at hl 2 rfl) ?_
            refine lv_aload_n hx hb dX11_wouldCut_57 rfl (lv_at hl 0 rfl) ?_
            refine gX11_4 S hK hT ha kf_X11_21 dX11_wouldCut_58 (fun _ _ => ?_)
            refine lv_iload hx hb dX11_wouldCut_61 (lv_at hl 4 rfl) ?_
            refine al_0 S hK hT hk9999e ar_31 (by decide) (z_X11_wouldCut_13 l6_47.toInt I47_0 c52) dX11_wouldCut_63 (fun x63 hv63 o63 => ?_)
            have hv63 : x63.toInt = (aI (G29.2.1 (F a 4)) (l6_47.toInt)) := hv63.trans (by rw [(rfl : Int32.toInt l6_47 = l6_47.toInt), ((hF35.2.1 _ (xn1 (xne_k hk9999e hk9999g (by decide)) (xn1 (xne_k hk9999e hk9999h (by decide)) (xn1 (xne_k hk9999e hk9999i (by decide)) (xn1 (xne_k hk9999e hk9999j (by decide)) (xn1 (xne_k hk9999e hk9999d (by decide)) xn0)))))) : G35.2.1 (F a 4) = G29.2.1 (F a 4))])
            refine lv_aload_n hx hb dX11_wouldCut_64 rfl (lv_at hl 0 rfl) ?_
            refine gX11_1 S hK hT ha kf_X11_9 dX11_wouldCut_65 (fun _ _ => ?_)
            refine lv_iload hx hb dX11_wouldCut_68 (lv_at hl 4 rfl) ?_
            refine al_0 S hK hT hk9999d ar_30 (by decide) (z_X11_wouldCut_13 l6_47.toInt I47_0 c52) dX11_wouldCut_70 (fun x70 hv70 o70 => ?_)
            have hv70 : x70.toInt = (aI (G35.2.1 (F a 1)) (l6_47.toInt)) := hv70.trans (by rw [(rfl : Int32.toInt l6_47 = l6_47.toInt)])
            refine xi_isub hx hb (hv63 : Int32.toInt x63 = (aI (G29.2.1 (F a 4)) (l6_47.toInt))) (hv70 : Int32.toInt x70 = (aI (G35.2.1 (F a 1)) (l6_47.toInt))) dX11_wouldCut_71 (fun x71 t71 => ?_)
            have e71 : x71.toInt = ((aI (G29.2.1 (F a 4)) (l6_47.toInt)) - (aI (G35.2.1 (F a 1)) (l6_47.toInt))) := (z_X11_wouldCut_15 x71.toInt (aI (G29.2.1 (F a 4)) (l6_47.toInt)) (aI (G35.2.1 (F a 1)) (l6_47.toInt)) z55b z55c t71)
            refine xi_iadd hx hb (rfl : Int32.toInt l4_47 = l4_47.toInt) (e71 : Int32.toInt x71 = ((aI (G29.2.1 (F a 4)) (l6_47.toInt)) - (aI (G35.2.1 (F a 1)) (l6_47.toInt)))) dX11_wouldCut_72 (fun x72 t72 => ?_)
            have e72 : x72.toInt = (l4_47.toInt + ((aI (G29.2.1 (F a 4)) (l6_47.toInt)) - (aI (G35.2.1 (F a 1)) (l6_47.toInt)))) := (z_X11_wouldCut_16 l4_47.toInt l6_47.toInt x72.toInt (aI (G29.2.1 (F a 4)) (l6_47.toInt)) (aI (G35.2.1 (F a 1)) (l6_47.toInt)) I47_2 c52 z55b z55c t72)
            refine lv_istore (lv' := [(4, .int x72), (0, .ref a), (3, .int p2), (5, .int l5_47), (6, .int l6_47)]) hx hb dX11_wouldCut_73 hl (by decide) rfl (fun ls hl => ?_)
            have z75 : (clR (G29.2.1 (F a 4)) (G35.2.1 (F a 1)) (l6_47.toInt) 1) = 0 := clR_0 _ _ _
            refine lv_iconst (v := 1) hx hb dX11_wouldCut_75 (by decide) ?_
            refine lv_istore (lv' := [(7, .int 1), (4, .int x72), (0, .ref a), (3, .int p2), (5, .int l5_47), (6, .int l6_47)]) hx hb dX11_wouldCut_76 hl (by decide) rfl (fun ls hl => ?_)
            have L78 : ∀ (N78 : Nat) (l5_78 : Int32) (l7_78 : Int32) (H : Heap) (locs : List Loc) (ls : Array Slot), 1 ≤ l7_78.toInt ∧ l7_78.toInt ≤ 4 → l5_78.toInt = (clT (G29.2.1 (F a 4)) (G35.2.1 (F a 1)) (l6_47.toInt)) + (clR (G29.2.1 (F a 4)) (G35.2.1 (F a 1)) (l6_47.toInt) (l7_78.toInt)) → 0 ≤ l5_78.toInt ∧ 4 * l5_78.toInt ≤ 3 * l6_47.toInt + 4 * (l7_78.toInt - 1) → 100 - l7_78.toInt < ((N78 : Nat) : Int) → TW E K F G35 H → va_S (xA E) s.heap H locs → lv_has ls 8 [(0, .ref a), (3, .int p2), (4, .int x72), (5, .int l5_78), (6, .int l6_47), (7, .int l7_78)] → W p l e rm_X11_wouldCut s m args below meth c H locs 0 0 Q (F0 m 78 ls []) := by
              intro N78
              induction N78 with
              | zero =>
                intro l5_78 l7_78 H locs ls I78_0 I78_1 I78_2 hm78
                exact absurd hm78 (z_X11_wouldCut_17 l7_78.toInt I78_0)
              | succ N78 ih78 =>
                intro l5_78 l7_78 H locs ls I78_0 I78_1 I78_2 hm78 hT hS hl
                refine lv_iload hx hb dX11_wouldCut_78 (lv_at hl 5 rfl) ?_
                refine lv_iconst (v := 4) hx hb dX11_wouldCut_80 (by decide) ?_
                refine xi_cge (tgt := 134) hx hb (rfl : Int32.toInt l7_78 = l7_78.toInt) ((by decide) : Int32.toInt 4 = (4 : Int)) dX11_wouldCut_81 (by decide) (fun c81 => ?_) (fun c81 => ?_)
                · have z134 : l7_78.toInt = 4 → (clR (G29.2.1 (F a 4)) (G35.2.1 (F a 1)) (l6_47.toInt) (l7_78.toInt)) = (clR (G29.2.1 (F a 4)) (G35.2.1 (F a 1)) (l6_47.toInt) 4) := fun h9 => by rw [h9]
                  have z134a : (aI (G35.2.1 (F a 1)) (l6_47.toInt)) ≠ 1 → (clR (G29.2.1 (F a 4)) (G35.2.1 (F a 1)) (l6_47.toInt) 4) = (clR (G29.2.1 (F a 4)) (G35.2.1 (F a 1)) (l6_47.toInt) (l7_78.toInt)) := fun h9 => clR_z h9 (I78_0)
                  have z134b : (clT (G29.2.1 (F a 4)) (G35.2.1 (F a 1)) (l6_47.toInt + 4)) = (clT (G29.2.1 (F a 4)) (G35.2.1 (F a 1)) (l6_47.toInt)) + (clR (G29.2.1 (F a 4)) (G35.2.1 (F a 1)) (l6_47.toInt) 4) := clT_s _ _ (z_X11_wouldCut_5 l6_47.toInt I47_0) (z_X11_wouldCut_6 l6_47.toInt I47_0)
                  refine xi_iinc (n := 4) (lv' := fun z9 => [(6, .int z9), (0, .ref a), (3, .int p2), (4, .int x72), (5, .int l5_78), (7, .int l7_78)]) (k := 4) hx hb (rfl : Int32.toInt l6_47 = l6_47.toInt) (by decide) dX11_wouldCut_134 hl rfl (by decide) (fun _ => rfl) (fun x134 ls t134 hl => ?_)
                  have e134 : x134.toInt = (l6_47.toInt + 4) := (z_X11_wouldCut_21 l6_47.toInt x134.toInt I47_0 t134)
                  have hl : lv_has ls 8 [(6, .int x134), (0, .ref a), (3, .int p2), (4, .int x72), (5, .int l5_78), (7, .int l7_78)] := hl
                  refine lv_goto (tgt := 47) hx hb dX11_wouldCut_137 (by decide) ?_
                  exact ih47 x72 l5_78 x134 _ _ _ (by rw [(e134 : Int32.toInt x134 = (l6_47.toInt + 4))] <;> exact (z_X11_wouldCut_22 l4_47.toInt l5_47.toInt l5_78.toInt l6_47.toInt l7_78.toInt N47 N78 (aI (G29.2.1 (F a 4)) (l6_47.toInt)) (aI (G35.2.1 (F a 1)) (l6_47.toInt)) (clR (G29.2.1 (F a 4)) (G35.2.1 (F a 1)) (l6_47.toInt) (l7_78.toInt)) (clR (G29.2.1 (F a 4)) (G35.2.1 (F a 1)) (l6_47.toInt) 4) (clT (G29.2.1 (F a 4)) (G35.2.1 (F a 1)) (l6_47.toInt + 4)) (clT (G29.2.1 (F a 4)) (G35.2.1 (F a 1)) (l6_47.toInt)) (rmT (G29.2.1 (F a 4)) (l6_47.toInt + 4)) (rmT (G29.2.1 (F a 4)) (l6_47.toInt)) (rmT (G35.2.1 (F a 1)) (l6_47.toInt + 4)) (rmT (G35.2.1 (F a 1)) (l6_47.toInt)) I47_0 I47_1 I47_2 I47_3 I47_4 hm47 c52 z55 z55a z55b z55c I78_0 I78_1 I78_2 hm78 c81 z134 z134a z134b (xr l4_47) (xr l5_47) (xr l5_78) (xr l6_47) (xr l7_78) (xrA _ _) (xrA _ _))) (by rw [(e72 : Int32.toInt x72 = (l4_47.toInt + ((aI (G29.2.1 (F a 4)) (l6_47.toInt)) - (aI (G35.2.1 (F a 1)) (l6_47.toInt))))), (e134 : Int32.toInt x134 = (l6_47.toInt + 4))] <;> exact (z_X11_wouldCut_23 l4_47.toInt (aI (G29.2.1 (F a 4)) (l6_47.toInt)) (aI (G35.2.1 (F a 1)) (l6_47.toInt)) (rmT (G29.2.1 (F a 4)) (l6_47.toInt + 4)) (rmT (G29.2.1 (F a 4)) (l6_47.toInt)) (rmT (G35.2.1 (F a 1)) (l6_47.toInt + 4)) (rmT (G35.2.1 (F a 1)) (l6_47.toInt)) I47_1 z55 z55a)) (by rw [(e134 : Int32.toInt x134 = (l6_47.toInt + 4)), (e72 : Int32.toInt x72 = (l4_47.toInt + ((aI (G29.2.1 (F a 4)) (l6_47.toInt)) - (aI (G35.2.1 (F a 1)) (l6_47.toInt)))))] <;> exact (z_X11_wouldCut_24 l4_47.toInt l6_47.toInt (aI (G29.2.1 (F a 4)) (l6_47.toInt)) (aI (G35.2.1 (F a 1)) (l6_47.toInt)) I47_2 z55b z55c)) (by rw [(e134 : Int32.toInt x134 = (l6_47.toInt + 4))] <;> exact (z_X11_wouldCut_25 l5_78.toInt l7_78.toInt (clR (G29.2.1 (F a 4)) (G35.2.1 (F a 1)) (l6_47.toInt) (l7_78.toInt)) (clR (G29.2.1 (F a 4)) (G35.2.1 (F a 1)) (l6_47.toInt) 4) (clT (G29.2.1 (F a 4)) (G35.2.1 (F a 1)) (l6_47.toInt + 4)) (clT (G29.2.1 (F a 4)) (G35.2.1 (F a 1)) (l6_47.toInt)) I78_0 I78_1 c81 z134 z134b)) (by rw [(e134 : Int32.toInt x134 = (l6_47.toInt + 4))] <;> exact (z_X11_wouldCut_26 l5_78.toInt l6_47.toInt l7_78.toInt I78_0 I78_2)) (by rw [(e134 : Int32.toInt x134 = (l6_47.toInt + 4))] <;> exact (z_X11_wouldCut_27 l6_47.toInt N47 hm47)) hT hS (lv_sub hl [1, 2, 3, 4, 0] rfl)
                · refine lv_aload_n hx hb dX11_wouldCut_84 rfl (lv_at hl 0 rfl) ?_
                  refine gX11_1 S hK hT ha kf_X11_9 dX11_wouldCut_85 (fun _ _ => ?_)
                  refine lv_iload hx hb dX11_wouldCut_88 (lv_at hl 4 rfl) ?_
                  refine al_0 S hK hT hk9999d ar_30 (by decide) (z_X11_wouldCut_13 l6_47.toInt I47_0 c52) dX11_wouldCut_90 (fun x90 hv90 o90 => ?_)
                  have hv90 : x90.toInt = (aI (G35.2.1 (F a 1)) (l6_47.toInt)) := hv90.trans (by rw [(rfl : Int32.toInt l6_47 = l6_47.toInt)])
                  refine lv_iconst (v := 1) hx hb dX11_wouldCut_91 (by decide) ?_
                  refine xi_cne (tgt := 134) hx hb (hv90 : Int32.toInt x90 = (aI (G35.2.1 (F a 1)) (l6_47.toInt))) ((by decide) : Int32.toInt 1 = (1 : Int)) dX11_wouldCut_92 (by decide) (fun c92 => ?_) (fun c92 => ?_)
                  · have z134 : l7_78.toInt = 4 → (clR (G29.2.1 (F a 4)) (G35.2.1 (F a 1)) (l6_47.toInt) (l7_78.toInt)) = (clR (G29.2.1 (F a 4)) (G35.2.1 (F a 1)) (l6_47.toInt) 4) := fun h9 => by rw [h9]
                    have z134a : (aI (G35.2.1 (F a 1)) (l6_47.toInt)) ≠ 1 → (clR (G29.2.1 (F a 4)) (G35.2.1 (F a 1)) (l6_47.toInt) 4) = (clR (G29.2.1 (F a 4)) (G35.2.1 (F a 1)) (l6_47.toInt) (l7_78.toInt)) := fun h9 => clR_z h9 (I78_0)
                    have z134b : (clT (G29.2.1 (F a 4)) (G35.2.1 (F a 1)) (l6_47.toInt + 4)) = (clT (G29.2.1 (F a 4)) (G35.2.1 (F a 1)) (l6_47.toInt)) + (clR (G29.2.1 (F a 4)) (G35.2.1 (F a 1)) (l6_47.toInt) 4) := clT_s _ _ (z_X11_wouldCut_5 l6_47.toInt I47_0) (z_X11_wouldCut_6 l6_47.toInt I47_0)
                    refine xi_iinc (n := 4) (lv' := fun z9 => [(6, .int z9), (0, .ref a), (3, .int p2), (4, .int x72), (5, .int l5_78), (7, .int l7_78)]) (k := 4) hx hb (rfl : Int32.toInt l6_47 = l6_47.toInt) (by decide) dX11_wouldCut_134 hl rfl (by decide) (fun _ => rfl) (fun x134 ls t134 hl => ?_)
                    have e134 : x134.toInt = (l6_47.toInt + 4) := (z_X11_wouldCut_21 l6_47.toInt x134.toInt I47_0 t134)
                    have hl : lv_has ls 8 [(6, .int x134), (0, .ref a), (3, .int p2), (4, .int x72), (5, .int l5_78), (7, .int l7_78)] := hl
                    refine lv_goto (tgt := 47) hx hb dX11_wouldCut_137 (by decide) ?_
                    exact ih47 x72 l5_78 x134 _ _ _ (by rw [(e134 : Int32.toInt x134 = (l6_47.toInt + 4))] <;> exact (z_X11_wouldCut_33 l4_47.toInt l5_47.toInt l5_78.toInt l6_47.toInt l7_78.toInt N47 N78 (aI (G29.2.1 (F a 4)) (l6_47.toInt)) (aI (G35.2.1 (F a 1)) (l6_47.toInt)) (clR (G29.2.1 (F a 4)) (G35.2.1 (F a 1)) (l6_47.toInt) (l7_78.toInt)) (clR (G29.2.1 (F a 4)) (G35.2.1 (F a 1)) (l6_47.toInt) 4) (clT (G29.2.1 (F a 4)) (G35.2.1 (F a 1)) (l6_47.toInt + 4)) (clT (G29.2.1 (F a 4)) (G35.2.1 (F a 1)) (l6_47.toInt)) (rmT (G29.2.1 (F a 4)) (l6_47.toInt + 4)) (rmT (G29.2.1 (F a 4)) (l6_47.toInt)) (rmT (G35.2.1 (F a 1)) (l6_47.toInt + 4)) (rmT (G35.2.1 (F a 1)) (l6_47.toInt)) I47_0 I47_1 I47_2 I47_3 I47_4 hm47 c52 z55 z55a z55b z55c I78_0 I78_1 I78_2 hm78 c81 c92 z134 z134a z134b (xr l4_47) (xr l5_47) (xr l5_78) (xr l6_47) (xr l7_78) (xrA _ _) (xrA _ _))) (by rw [(e72 : Int32.toInt x72 = (l4_47.toInt + ((aI (G29.2.1 (F a 4)) (l6_47.toInt)) - (aI (G35.2.1 (F a 1)) (l6_47.toInt))))), (e134 : Int32.toInt x134 = (l6_47.toInt + 4))] <;> exact (z_X11_wouldCut_23 l4_47.toInt (aI (G29.2.1 (F a 4)) (l6_47.toInt)) (aI (G35.2.1 (F a 1)) (l6_47.toInt)) (rmT (G29.2.1 (F a 4)) (l6_47.toInt + 4)) (rmT (G29.2.1 (F a 4)) (l6_47.toInt)) (rmT (G35.2.1 (F a 1)) (l6_47.toInt + 4)) (rmT (G35.2.1 (F a 1)) (l6_47.toInt)) I47_1 z55 z55a)) (by rw [(e134 : Int32.toInt x134 = (l6_47.toInt + 4)), (e72 : Int32.toInt x72 = (l4_47.toInt + ((aI (G29.2.1 (F a 4)) (l6_47.toInt)) - (aI (G35.2.1 (F a 1)) (l6_47.toInt)))))] <;> exact (z_X11_wouldCut_24 l4_47.toInt l6_47.toInt (aI (G29.2.1 (F a 4)) (l6_47.toInt)) (aI (G35.2.1 (F a 1)) (l6_47.toInt)) I47_2 z55b z55c)) (by rw [(e134 : Int32.toInt x134 = (l6_47.toInt + 4))] <;> exact (z_X11_wouldCut_36 l5_78.toInt (aI (G35.2.1 (F a 1)) (l6_47.toInt)) (clR (G29.2.1 (F a 4)) (G35.2.1 (F a 1)) (l6_47.toInt) (l7_78.toInt)) (clR (G29.2.1 (F a 4)) (G35.2.1 (F a 1)) (l6_47.toInt) 4) (clT (G29.2.1 (F a 4)) (G35.2.1 (F a 1)) (l6_47.toInt + 4)) (clT (G29.2.1 (F a 4)) (G35.2.1 (F a 1)) (l6_47.toInt)) I78_1 c92 z134a z134b)) (by rw [(e134 : Int32.toInt x134 = (l6_47.toInt + 4))] <;> exact (z_X11_wouldCut_37 l5_78.toInt l6_47.toInt l7_78.toInt I78_2 c81)) (by rw [(e134 : Int32.toInt x134 = (l6_47.toInt + 4))] <;> exact (z_X11_wouldCut_27 l6_47.toInt N47 hm47)) hT hS (lv_sub hl [1, 2, 3, 4, 0] rfl)
                  · have z95 : (clR (G29.2.1 (F a 4)) (G35.2.1 (F a 1)) (l6_47.toInt) (l7_78.toInt + 1)) = (clR (G29.2.1 (F a 4)) (G35.2.1 (F a 1)) (l6_47.toInt) (l7_78.toInt)) + (clA (G29.2.1 (F a 4)) (G35.2.1 (F a 1)) (l6_47.toInt) (l7_78.toInt)) := clR_s _ _ _ (z_X11_wouldCut_39 l7_78.toInt I78_0)
                    have z95a : ((aI (G35.2.1 (F a 1)) (l6_47.toInt)) = 1 ∧ (aI (G29.2.1 (F a 4)) (l6_47.toInt + l7_78.toInt)) ≠ (aI (G35.2.1 (F a 1)) (l6_47.toInt + l7_78.toInt)) → (clA (G29.2.1 (F a 4)) (G35.2.1 (F a 1)) (l6_47.toInt) (l7_78.toInt)) = 1) ∧ (¬ ((aI (G35.2.1 (F a 1)) (l6_47.toInt)) = 1 ∧ (aI (G29.2.1 (F a 4)) (l6_47.toInt + l7_78.toInt)) ≠ (aI (G35.2.1 (F a 1)) (l6_47.toInt + l7_78.toInt))) → (clA (G29.2.1 (F a 4)) (G35.2.1 (F a 1)) (l6_47.toInt) (l7_78.toInt)) = 0) := clA_st _ _ _ _
                    refine lv_iload hx hb dX11_wouldCut_95 (lv_at hl 3 rfl) ?_
                    refine lv_aload_n hx hb dX11_wouldCut_97 rfl (lv_at hl 0 rfl) ?_
                    refine gX11_4 S hK hT ha kf_X11_21 dX11_wouldCut_98 (fun _ _ => ?_)
                    refine lv_iload hx hb dX11_wouldCut_101 (lv_at hl 4 rfl) ?_
                    refine lv_iload hx hb dX11_wouldCut_103 (lv_at hl 5 rfl) ?_
                    refine xi_iadd hx hb (rfl : Int32.toInt l6_47 = l6_47.toInt) (rfl : Int32.toInt l7_78 = l7_78.toInt) dX11_wouldCut_105 (fun x105 t105 => ?_)
                    have e105 : x105.toInt = (l6_47.toInt + l7_78.toInt) := (z_X11_wouldCut_40 l5_78.toInt l6_47.toInt l7_78.toInt x105.toInt c52 I78_2 c81 t105)
                    refine al_0 S hK hT hk9999e ar_31 (by decide) (by rw [(e105 : Int32.toInt x105 = (l6_47.toInt + l7_78.toInt))]; exact (z_X11_wouldCut_41 l4_47.toInt l5_47.toInt l5_78.toInt l6_47.toInt l7_78.toInt N47 N78 (aI (G29.2.1 (F a 4)) (l6_47.toInt + l7_78.toInt)) (aI (G29.2.1 (F a 4)) (l6_47.toInt)) (aI (G35.2.1 (F a 1)) (l6_47.toInt + l7_78.toInt)) (aI (G35.2.1 (F a 1)) (l6_47.toInt)) (clA (G29.2.1 (F a 4)) (G35.2.1 (F a 1)) (l6_47.toInt) (l7_78.toInt)) (clR (G29.2.1 (F a 4)) (G35.2.1 (F a 1)) (l6_47.toInt) (l7_78.toInt + 1)) (clR (G29.2.1 (F a 4)) (G35.2.1 (F a 1)) (l6_47.toInt) (l7_78.toInt)) (clT (G29.2.1 (F a 4)) (G35.2.1 (F a 1)) (l6_47.toInt)) (rmT (G29.2.1 (F a 4)) (l6_47.toInt + 4)) (rmT (G29.2.1 (F a 4)) (l6_47.toInt)) (rmT (G35.2.1 (F a 1)) (l6_47.toInt + 4)) (rmT (G35.2.1 (F a 1)) (l6_47.toInt)) I47_0 I47_1 I47_2 I47_3 I47_4 hm47 c52 z55 z55a z55b z55c I78_0 I78_1 I78_2 hm78 c81 c92 z95 (z95a).1 (z95a).2 (xr l4_47) (xr l5_47) (xr l5_78) (xr l6_47) (xr l7_78) (xrA _ _) (xrA _ _) (xrA _ _) (xrA _ _))) dX11_wouldCut_106 (fun x106 hv106 o106 => ?_)
                    have hv106 : x106.toInt = (aI (G29.2.1 (F a 4)) (l6_47.toInt + l7_78.toInt)) := hv106.trans (by rw [(e105 : Int32.toInt x105 = (l6_47.toInt + l7_78.toInt)), ((hF35.2.1 _ (xn1 (xne_k hk9999e hk9999g (by decide)) (xn1 (xne_k hk9999e hk9999h (by decide)) (xn1 (xne_k hk9999e hk9999i (by decide)) (xn1 (xne_k hk9999e hk9999j (by decide)) (xn1 (xne_k hk9999e hk9999d (by decide)) xn0)))))) : G35.2.1 (F a 4) = G29.2.1 (F a 4))])
                    refine lv_aload_n hx hb dX11_wouldCut_107 rfl (lv_at hl 0 rfl) ?_
                    refine gX11_1 S hK hT ha kf_X11_9 dX11_wouldCut_108 (fun _ _ => ?_)
                    refine lv_iload hx hb dX11_wouldCut_111 (lv_at hl 4 rfl) ?_
                    refine lv_iload hx hb dX11_wouldCut_113 (lv_at hl 5 rfl) ?_
                    refine xi_iadd hx hb (rfl : Int32.toInt l6_47 = l6_47.toInt) (rfl : Int32.toInt l7_78 = l7_78.toInt) dX11_wouldCut_115 (fun x115 t115 => ?_)
                    have e115 : x115.toInt = (l6_47.toInt + l7_78.toInt) := (z_X11_wouldCut_40 l5_78.toInt l6_47.toInt l7_78.toInt x115.toInt c52 I78_2 c81 t115)
                    refine al_0 S hK hT hk9999d ar_30 (by decide) (by rw [(e115 : Int32.toInt x115 = (l6_47.toInt + l7_78.toInt))]; exact (z_X11_wouldCut_43 l4_47.toInt l5_47.toInt l5_78.toInt l6_47.toInt l7_78.toInt N47 N78 (aI (G29.2.1 (F a 4)) (l6_47.toInt + l7_78.toInt)) (aI (G29.2.1 (F a 4)) (l6_47.toInt)) (aI (G35.2.1 (F a 1)) (l6_47.toInt + l7_78.toInt)) (aI (G35.2.1 (F a 1)) (l6_47.toInt)) (clA (G29.2.1 (F a 4)) (G35.2.1 (F a 1)) (l6_47.toInt) (l7_78.toInt)) (clR (G29.2.1 (F a 4)) (G35.2.1 (F a 1)) (l6_47.toInt) (l7_78.toInt + 1)) (clR (G29.2.1 (F a 4)) (G35.2.1 (F a 1)) (l6_47.toInt) (l7_78.toInt)) (clT (G29.2.1 (F a 4)) (G35.2.1 (F a 1)) (l6_47.toInt)) (rmT (G29.2.1 (F a 4)) (l6_47.toInt + 4)) (rmT (G29.2.1 (F a 4)) (l6_47.toInt)) (rmT (G35.2.1 (F a 1)) (l6_47.toInt + 4)) (rmT (G35.2.1 (F a 1)) (l6_47.toInt)) I47_0 I47_1 I47_2 I47_3 I47_4 hm47 c52 z55 z55a z55b z55c I78_0 I78_1 I78_2 hm78 c81 c92 z95 (z95a).1 (z95a).2 (xr l4_47) (xr l5_47) (xr l5_78) (xr l6_47) (xr l7_78) (xrA _ _) (xrA _ _) (xrA _ _) (xrA _ _))) dX11_wouldCut_116 (fun x116 hv116 o116 => ?_)
                    have hv116 : x116.toInt = (aI (G35.2.1 (F a 1)) (l6_47.toInt + l7_78.toInt)) := hv116.trans (by rw [(e115 : Int32.toInt x115 = (l6_47.toInt + l7_78.toInt))])
                    refine xi_ceq (tgt := 124) hx hb (hv106 : Int32.toInt x106 = (aI (G29.2.1 (F a 4)) (l6_47.toInt + l7_78.toInt))) (hv116 : Int32.toInt x116 = (aI (G35.2.1 (F a 1)) (l6_47.toInt + l7_78.toInt))) dX11_wouldCut_117 (by decide) (fun c117 => ?_) (fun c117 => ?_)
                    · refine lv_iconst (v := 0) hx hb dX11_wouldCut_124 (by decide) ?_
                      refine xi_iadd hx hb (rfl : Int32.toInt l5_78 = l5_78.toInt) ((by decide) : Int32.toInt 0 = (0 : Int)) dX11_wouldCut_125 (fun x125 t125 => ?_)
                      have e125 : x125.toInt = (l5_78.toInt + (0 : Int)) := (z_X11_wouldCut_44 l5_78.toInt x125.toInt t125 (xr l5_78))
                      refine lv_istore (lv' := [(5, .int x125), (0, .ref a), (3, .int p2), (4, .int x72), (6, .int l6_47), (7, .int l7_78)]) hx hb dX11_wouldCut_126 hl (by decide) rfl (fun ls hl => ?_)
                      refine xi_iinc (n := 1) (lv' := fun z9 => [(7, .int z9), (5, .int x125), (0, .ref a), (3, .int p2), (4, .int x72), (6, .int l6_47)]) (k := 5) hx hb (rfl : Int32.toInt l7_78 = l7_78.toInt) (by decide) dX11_wouldCut_128 hl rfl (by decide) (fun _ => rfl) (fun x128 ls t128 hl => ?_)
                      have e128 : x128.toInt = (l7_78.toInt + 1) := (z_X11_wouldCut_45 l7_78.toInt x128.toInt I78_0 t128)
                      have hl : lv_has ls 8 [(7, .int x128), (5, .int x125), (0, .ref a), (3, .int p2), (4, .int x72), (6, .int l6_47)] := hl
                      refine lv_goto (tgt := 78) hx hb dX11_wouldCut_131 (by decide) ?_
                      exact ih78 x125 x128 _ _ _ (by rw [(e128 : Int32.toInt x128 = (l7_78.toInt + 1))] <;> exact (z_X11_wouldCut_46 l7_78.toInt I78_0 c81)) (by rw [(e125 : Int32.toInt x125 = (l5_78.toInt + (0 : Int))), (e128 : Int32.toInt x128 = (l7_78.toInt + 1))] <;> exact (z_X11_wouldCut_47 l5_78.toInt (aI (G29.2.1 (F a 4)) (l6_47.toInt + l7_78.toInt)) (aI (G35.2.1 (F a 1)) (l6_47.toInt + l7_78.toInt)) (aI (G35.2.1 (F a 1)) (l6_47.toInt)) (clA (G29.2.1 (F a 4)) (G35.2.1 (F a 1)) (l6_47.toInt) (l7_78.toInt)) (clR (G29.2.1 (F a 4)) (G35.2.1 (F a 1)) (l6_47.toInt) (l7_78.toInt + 1)) (clR (G29.2.1 (F a 4)) (G35.2.1 (F a 1)) (l6_47.toInt) (l7_78.toInt)) (clT (G29.2.1 (F a 4)) (G35.2.1 (F a 1)) (l6_47.toInt)) I78_1 z95 (z95a).2 c117)) (by rw [(e125 : Int32.toInt x125 = (l5_78.toInt + (0 : Int))), (e128 : Int32.toInt x128 = (l7_78.toInt + 1))] <;> exact (z_X11_wouldCut_48 l5_78.toInt l6_47.toInt l7_78.toInt I78_2)) (by rw [(e128 : Int32.toInt x128 = (l7_78.toInt + 1))] <;> exact (z_X11_wouldCut_49 l7_78.toInt N78 hm78)) hT hS (lv_sub hl [2, 3, 4, 1, 5, 0] rfl)
                    · refine lv_iconst (v := 1) hx hb dX11_wouldCut_120 (by decide) ?_
                      refine lv_goto (tgt := 125) hx hb dX11_wouldCut_121 (by decide) ?_
                      refine xi_iadd hx hb (rfl : Int32.toInt l5_78 = l5_78.toInt) ((by decide) : Int32.toInt 1 = (1 : Int)) dX11_wouldCut_125 (fun x125 t125 => ?_)
                      have e125 : x125.toInt = (l5_78.toInt + (1 : Int)) := (z_X11_wouldCut_50 l5_78.toInt l6_47.toInt l7_78.toInt x125.toInt c52 I78_2 c81 t125)
                      refine lv_istore (lv' := [(5, .int x125), (0, .ref a), (3, .int p2), (4, .int x72), (6, .int l6_47), (7, .int l7_78)]) hx hb dX11_wouldCut_126 hl (by decide) rfl (fun ls hl => ?_)
                      refine xi_iinc (n := 1) (lv' := fun z9 => [(7, .int z9), (5, .int x125), (0, .ref a), (3, .int p2), (4, .int x72), (6, .int l6_47)]) (k := 5) hx hb (rfl : Int32.toInt l7_78 = l7_78.toInt) (by decide) dX11_wouldCut_128 hl rfl (by decide) (fun _ => rfl) (fun x128 ls t128 hl => ?_)
                      have e128 : x128.toInt = (l7_78.toInt + 1) := (z_X11_wouldCut_45 l7_78.toInt x128.toInt I78_0 t128)
                      have hl : lv_has ls 8 [(7, .int x128), (5, .int x125), (0, .ref a), (3, .int p2), (4, .int x72), (6, .int l6_47)] := hl
                      refine lv_goto (tgt := 78) hx hb dX11_wouldCut_131 (by decide) ?_
                      exact ih78 x125 x128 _ _ _ (by rw [(e128 : Int32.toInt x128 = (l7_78.toInt + 1))] <;> exact (z_X11_wouldCut_46 l7_78.toInt I78_0 c81)) (by rw [(e125 : Int32.toInt x125 = (l5_78.toInt + (1 : Int))), (e128 : Int32.toInt x128 = (l7_78.toInt + 1))] <;> exact (z_X11_wouldCut_53 l5_78.toInt (aI (G29.2.1 (F a 4)) (l6_47.toInt + l7_78.toInt)) (aI (G35.2.1 (F a 1)) (l6_47.toInt + l7_78.toInt)) (aI (G35.2.1 (F a 1)) (l6_47.toInt)) (clA (G29.2.1 (F a 4)) (G35.2.1 (F a 1)) (l6_47.toInt) (l7_78.toInt)) (clR (G29.2.1 (F a 4)) (G35.2.1 (F a 1)) (l6_47.toInt) (l7_78.toInt + 1)) (clR (G29.2.1 (F a 4)) (G35.2.1 (F a 1)) (l6_47.toInt) (l7_78.toInt)) (clT (G29.2.1 (F a 4)) (G35.2.1 (F a 1)) (l6_47.toInt)) I78_1 c92 z95 (z95a).1 c117)) (by rw [(e125 : Int32.toInt x125 = (l5_78.toInt + (1 : Int))), (e128 : Int32.toInt x128 = (l7_78.toInt + 1))] <;> exact (z_X11_wouldCut_54 l5_78.toInt l6_47.toInt l7_78.toInt I78_2)) (by rw [(e128 : Int32.toInt x128 = (l7_78.toInt + 1))] <;> exact (z_X11_wouldCut_49 l7_78.toInt N78 hm78)) hT hS (lv_sub hl [2, 3, 4, 1, 5, 0] rfl)
            exact L78 4294967297 l5_47 1 _ _ _ (by decide) (z_X11_wouldCut_56 l5_47.toInt (clR (G29.2.1 (F a 4)) (G35.2.1 (F a 1)) (l6_47.toInt) 1) (clT (G29.2.1 (F a 4)) (G35.2.1 (F a 1)) (l6_47.toInt)) I47_3 z75) (z_X11_wouldCut_57 l5_47.toInt l6_47.toInt I47_4) (by decide) hT hS (lv_sub hl [2, 3, 1, 4, 5, 0] rfl)
      exact L47 4294967297 0 0 0 _ _ _ (by decide) (z_X11_wouldCut_58 (rmT (G29.2.1 (F a 4)) 0) (rmT (G35.2.1 (F a 1)) 0) z44 z44a) (by decide) (z_X11_wouldCut_59 (clT (G29.2.1 (F a 4)) (G35.2.1 (F a 1)) 0) z44b) (by decide) (by decide) hT hS (lv_sub hl [3, 6, 2, 1, 0] rfl)
    · refine lv_iconst (v := (-1)) hx hb dX11_wouldCut_26 (by decide) ?_
      exact x_ri hx hb hr hlk hQ (Nat.le_of_ble_eq_true rfl) (Nat.le_of_ble_eq_true rfl) hS dX11_wouldCut_27 G2 ⟨_, rfl, (by rw [hG2]; exact XFr.dput XFr.rf (List.mem_of_getElem? (i := 4) rfl)), (v_X11_wouldCut_27_22 (F := F) G2 a G (ld_c hG2)), (v_X11_wouldCut_27_23 (F := F) G a G2 hM (ld_c hG2)), (by rw [((by decide) : Int32.toInt (-1) = (-1 : Int))] <;> exact (v_X11_wouldCut_27_24 (K := K) (F := F) a G p0 p1 x8 x20 p2 ha z5 t8 c11 t20 c23))⟩ hT
theorem v_X10_all_12_1 {K : Nat → Nat} {F : Nat → Nat → Nat} (a : Nat) (G : XG) (p0 : Int32)
    (ha : K a = 12)
    (sb : 0 ≤ ((G.1 (F a 2) 2).toInt) ∧ ((G.1 (F a 2) 2).toInt) ≤ 12)
    (c1 : p0.toInt < 0) :
    ((p0.toInt < 0 ∨ 2 < p0.toInt) ∧ (-2147483648 : Int) = -2147483648) ∨ ((0 ≤ p0.toInt ∧ p0.toInt ≤ 2) ∧ (-2147483648 : Int) = alS p0.toInt (fqL (gaL G (G.2.2.1 (F (F a 2) 1)) (vw (G.2.1 (F (F a 6) 0))) (vw (G.2.1 (F (F a 3) 0))) 0 (((G.1 (F a 2) 2).toInt)).toNat))) := by
  exact Or.inl ⟨by omega, rfl⟩
theorem v_X10_all_27_2 {F : Nat → Nat → Nat} (a : Nat) (G : XG)
    (ro0 : RO (vw (G.2.1 (F (F a 6) 0))) (aI (G.2.1 (F (F a 6) 1)))) :
    RO (vw (G.2.1 (F (F a 6) 0))) (aI (G.2.1 (F (F a 6) 1))) := by exact ro0
theorem v_X10_all_27_3 {F : Nat → Nat → Nat} (a : Nat) (G : XG)
    (ron : RO (vw (G.2.1 (F (F a 3) 0))) (aI (G.2.1 (F (F a 3) 1)))) :
    RO (vw (G.2.1 (F (F a 3) 0))) (aI (G.2.1 (F (F a 3) 1))) := by exact ron
theorem v_X10_all_27_4 {K : Nat → Nat} {F : Nat → Nat → Nat} (G : XG) (a : Nat)
    (bko : BKr K G (G.2.2.1 (F (F a 2) 1))) :
    ∀ (i q : Nat), i < 12 → G.2.2.1 (F (F a 2) 1) i = some q → RW (G.1 q) := by
  exact bko.rw
theorem v_X10_all_27_5 {K : Nat → Nat} {F : Nat → Nat → Nat} (a : Nat) (G : XG) (p0 : Int32)
    (ha : K a = 12)
    (hk9999 : K (F a 11) = 3)
    (hj9999 : F (F a 11) 99 = 0)
    (hk9999a : K (F a 9) = 6)
    (hj9999a : F (F a 9) 99 = 1)
    (hk9999b : K (F (F a 11) 0) = 21)
    (hj9999b : F (F (F a 11) 0) 99 = 100)
    (hk9999c : K (F (F a 11) 1) = 21)
    (hj9999c : F (F (F a 11) 1) 99 = 101)
    (hk9999d : K (F (F a 11) 2) = 24)
    (hj9999d : F (F (F a 11) 2) 99 = 4)
    (hk9999e : K (F (F a 9) 0) = 22)
    (hj9999f : F (F (F a 9) 0) 99 = 10 * 1 + 0)
    (hk9999f : K (F (F a 9) 1) = 22)
    (hj9999h : F (F (F a 9) 1) 99 = 10 * 1 + 1)
    (hk9999g : K (F (F a 9) 2) = 22)
    (hj9999j : F (F (F a 9) 2) 99 = 10 * 1 + 2)
    (hk9999h : K (F (F a 9) 3) = 22)
    (hj9999l : F (F (F a 9) 3) 99 = 10 * 1 + 3)
    (hk9999i : K (F (F a 9) 4) = 23)
    (hj9999n : F (F (F a 9) 4) 99 = 10 * 1 + 4)
    (hk9999j : K (F (F a 9) 5) = 23)
    (hj9999p : F (F (F a 9) 5) 99 = 10 * 1 + 5)
    (hk9999k : K (F a 2) = 2)
    (hj9999q : F (F a 2) 99 = 0)
    (hk9999l : K (F (F a 2) 1) = 15)
    (hj9999r : F (F (F a 2) 1) 99 = 1)
    (hk9999m : K (F a 6) = 8)
    (hj9999s : F (F a 6) 99 = 3)
    (hk9999n : K (F (F a 6) 0) = 20)
    (hj9999u : F (F (F a 6) 0) 99 = 3)
    (hk9999o : K (F (F a 6) 1) = 21)
    (hj9999w : F (F (F a 6) 1) 99 = 3)
    (hk9999p : K (F a 3) = 8)
    (hj9999y : F (F a 3) 99 = 0)
    (hk9999q : K (F (F a 3) 0) = 20)
    (hj9999z26 : F (F (F a 3) 0) 99 = 0)
    (hk9999r : K (F (F a 3) 1) = 21)
    (hj9999z28 : F (F (F a 3) 1) 99 = 0)
    (ro0 : RO (vw (G.2.1 (F (F a 6) 0))) (aI (G.2.1 (F (F a 6) 1))))
    (ron : RO (vw (G.2.1 (F (F a 3) 0))) (aI (G.2.1 (F (F a 3) 1))))
    (bko : BKr K G (G.2.2.1 (F (F a 2) 1)))
    (sb : 0 ≤ ((G.1 (F a 2) 2).toInt) ∧ ((G.1 (F a 2) 2).toInt) ≤ 12)
    (c1 : ¬ (p0.toInt < 0))
    (c6 : p0.toInt ≤ (2 : Int)) :
    F (F a 6) 99 < 12 := by
  first | assumption | omega
theorem v_X10_all_27_6 {K : Nat → Nat} {F : Nat → Nat → Nat} (a : Nat) (G : XG) (p0 : Int32)
    (ha : K a = 12)
    (hk9999 : K (F a 11) = 3)
    (hj9999 : F (F a 11) 99 = 0)
    (hk9999a : K (F a 9) = 6)
    (hj9999a : F (F a 9) 99 = 1)
    (hk9999b : K (F (F a 11) 0) = 21)
    (hj9999b : F (F (F a 11) 0) 99 = 100)
    (hk9999c : K (F (F a 11) 1) = 21)
    (hj9999c : F (F (F a 11) 1) 99 = 101)
    (hk9999d : K (F (F a 11) 2) = 24)
    (hj9999d : F (F (F a 11) 2) 99 = 4)
    (hk9999e : K (F (F a 9) 0) = 22)
    (hj9999f : F (F (F a 9) 0) 99 = 10 * 1 + 0)
    (hk9999f : K (F (F a 9) 1) = 22)
    (hj9999h : F (F (F a 9) 1) 99 = 10 * 1 + 1)
    (hk9999g : K (F (F a 9) 2) = 22)
    (hj9999j : F (F (F a 9) 2) 99 = 10 * 1 + 2)
    (hk9999h : K (F (F a 9) 3) = 22)
    (hj9999l : F (F (F a 9) 3) 99 = 10 * 1 + 3)
    (hk9999i : K (F (F a 9) 4) = 23)
    (hj9999n : F (F (F a 9) 4) 99 = 10 * 1 + 4)
    (hk9999j : K (F (F a 9) 5) = 23)
    (hj9999p : F (F (F a 9) 5) 99 = 10 * 1 + 5)
    (hk9999k : K (F a 2) = 2)
    (hj9999q : F (F a 2) 99 = 0)
    (hk9999l : K (F (F a 2) 1) = 15)
    (hj9999r : F (F (F a 2) 1) 99 = 1)
    (hk9999m : K (F a 6) = 8)
    (hj9999s : F (F a 6) 99 = 3)
    (hk9999n : K (F (F a 6) 0) = 20)
    (hj9999u : F (F (F a 6) 0) 99 = 3)
    (hk9999o : K (F (F a 6) 1) = 21)
    (hj9999w : F (F (F a 6) 1) 99 = 3)
    (hk9999p : K (F a 3) = 8)
    (hj9999y : F (F a 3) 99 = 0)
    (hk9999q : K (F (F a 3) 0) = 20)
    (hj9999z26 : F (F (F a 3) 0) 99 = 0)
    (hk9999r : K (F (F a 3) 1) = 21)
    (hj9999z28 : F (F (F a 3) 1) 99 = 0)
    (ro0 : RO (vw (G.2.1 (F (F a 6) 0))) (aI (G.2.1 (F (F a 6) 1))))
    (ron : RO (vw (G.2.1 (F (F a 3) 0))) (aI (G.2.1 (F (F a 3) 1))))
    (bko : BKr K G (G.2.2.1 (F (F a 2) 1)))
    (sb : 0 ≤ ((G.1 (F a 2) 2).toInt) ∧ ((G.1 (F a 2) 2).toInt) ≤ 12)
    (c1 : ¬ (p0.toInt < 0))
    (c6 : p0.toInt ≤ (2 : Int)) :
    F (F a 3) 99 < 12 := by
  first | assumption | omega
theorem v_X10_all_81_7 {K : Nat → Nat} {F : Nat → Nat → Nat} (a : Nat) (G : XG) (G27 : XG) (x46 : Int32) (p0 : Int32) (x78 : Int32)
    (ha : K a = 12)
    (oq27 : qL G27 F (F a 9) = gaL G (G.2.2.1 (F (F a 2) 1)) (vw (G.2.1 (F (F a 6) 0))) (vw (G.2.1 (F (F a 3) 0))) (0 : Int) (((G.1 (F a 2) 2).toInt)).toNat)
    (oq46 : ∀ j : Int, 0 ≤ j → j < ((G27.1 (F a 9) 6).toInt) → (x46.toInt = -1 ∨ j < x46.toInt) → aI (G27.2.1 (F (F a 9) 5)) j = 0)
    (sb : 0 ≤ ((G.1 (F a 2) 2).toInt) ∧ ((G.1 (F a 2) 2).toInt) ≤ 12)
    (c1 : ¬ (p0.toInt < 0))
    (c6 : p0.toInt ≤ (2 : Int))
    (t27 : 0 ≤ ((G27.1 (F a 9) 6).toInt) ∧ ((G27.1 (F a 9) 6).toInt) ≤ 1080)
    (c31 : p0.toInt ≠ 0)
    (t46 : x46.toInt = -1 ∨ (0 ≤ x46.toInt ∧ x46.toInt < ((G27.1 (F a 9) 6).toInt) ∧ (aI (G27.2.1 (F (F a 9) 5)) (x46.toInt)) = 1))
    (c52 : x46.toInt ≠ (-1 : Int))
    (c59 : p0.toInt ≠ (1 : Int))
    (t78 : ((0 ≤ x46.toInt ∧ x46.toInt < ((G27.1 (F a 9) 6).toInt) ∧ x46.toInt < 1080) ∧ x78.toInt = (aI (G27.2.1 (F (F a 9) 1)) (x46.toInt))) ∨ (¬ (0 ≤ x46.toInt ∧ x46.toInt < ((G27.1 (F a 9) 6).toInt) ∧ x46.toInt < 1080) ∧ x78.toInt = -1)) :
    ((p0.toInt < 0 ∨ 2 < p0.toInt) ∧ x78.toInt = -2147483648) ∨ ((0 ≤ p0.toInt ∧ p0.toInt ≤ 2) ∧ x78.toInt = alS p0.toInt (fqL (gaL G (G.2.2.1 (F (F a 2) 1)) (vw (G.2.1 (F (F a 6) 0))) (vw (G.2.1 (F (F a 3) 0))) 0 (((G.1 (F a 2) 2).toInt)).toNat))) := by
  rw [← oq27]
  obtain ⟨t, ht⟩ := ff_some c52 t46 oq46
  refine Or.inr ⟨by omega, ?_⟩
  first
    | exact (show x67.toInt = aI (G27.2.1 (F (F a 9) 0)) x46.toInt by omega).trans (alS_c1 (by omega) ht).symm
    | exact (show x78.toInt = aI (G27.2.1 (F (F a 9) 1)) x46.toInt by omega).trans (alS_c2 (by omega) ht).symm
theorem v_X10_all_81_8 {K : Nat → Nat} {F : Nat → Nat → Nat} (a : Nat) (G : XG) (G27 : XG) (x46 : Int32) (p0 : Int32) (x67 : Int32)
    (ha : K a = 12)
    (oq27 : qL G27 F (F a 9) = gaL G (G.2.2.1 (F (F a 2) 1)) (vw (G.2.1 (F (F a 6) 0))) (vw (G.2.1 (F (F a 3) 0))) (0 : Int) (((G.1 (F a 2) 2).toInt)).toNat)
    (oq46 : ∀ j : Int, 0 ≤ j → j < ((G27.1 (F a 9) 6).toInt) → (x46.toInt = -1 ∨ j < x46.toInt) → aI (G27.2.1 (F (F a 9) 5)) j = 0)
    (sb : 0 ≤ ((G.1 (F a 2) 2).toInt) ∧ ((G.1 (F a 2) 2).toInt) ≤ 12)
    (c1 : ¬ (p0.toInt < 0))
    (c6 : p0.toInt ≤ (2 : Int))
    (t27 : 0 ≤ ((G27.1 (F a 9) 6).toInt) ∧ ((G27.1 (F a 9) 6).toInt) ≤ 1080)
    (c31 : p0.toInt ≠ 0)
    (t46 : x46.toInt = -1 ∨ (0 ≤ x46.toInt ∧ x46.toInt < ((G27.1 (F a 9) 6).toInt) ∧ (aI (G27.2.1 (F (F a 9) 5)) (x46.toInt)) = 1))
    (c52 : x46.toInt ≠ (-1 : Int))
    (c59 : ¬ (p0.toInt ≠ (1 : Int)))
    (t67 : ((0 ≤ x46.toInt ∧ x46.toInt < ((G27.1 (F a 9) 6).toInt) ∧ x46.toInt < 1080) ∧ x67.toInt = (aI (G27.2.1 (F (F a 9) 0)) (x46.toInt))) ∨ (¬ (0 ≤ x46.toInt ∧ x46.toInt < ((G27.1 (F a 9) 6).toInt) ∧ x46.toInt < 1080) ∧ x67.toInt = -1)) :
    ((p0.toInt < 0 ∨ 2 < p0.toInt) ∧ x67.toInt = -2147483648) ∨ ((0 ≤ p0.toInt ∧ p0.toInt ≤ 2) ∧ x67.toInt = alS p0.toInt (fqL (gaL G (G.2.2.1 (F (F a 2) 1)) (vw (G.2.1 (F (F a 6) 0))) (vw (G.2.1 (F (F a 3) 0))) 0 (((G.1 (F a 2) 2).toInt)).toNat))) := by
  rw [← oq27]
  obtain ⟨t, ht⟩ := ff_some c52 t46 oq46
  refine Or.inr ⟨by omega, ?_⟩
  first
    | exact (show x67.toInt = aI (G27.2.1 (F (F a 9) 0)) x46.toInt by omega).trans (alS_c1 (by omega) ht).symm
    | exact (show x78.toInt = aI (G27.2.1 (F (F a 9) 1)) x46.toInt by omega).trans (alS_c2 (by omega) ht).symm
theorem v_X10_all_56_9 {K : Nat → Nat} {F : Nat → Nat → Nat} (a : Nat) (G : XG) (G27 : XG) (x46 : Int32) (p0 : Int32)
    (ha : K a = 12)
    (oq27 : qL G27 F (F a 9) = gaL G (G.2.2.1 (F (F a 2) 1)) (vw (G.2.1 (F (F a 6) 0))) (vw (G.2.1 (F (F a 3) 0))) (0 : Int) (((G.1 (F a 2) 2).toInt)).toNat)
    (oq46 : ∀ j : Int, 0 ≤ j → j < ((G27.1 (F a 9) 6).toInt) → (x46.toInt = -1 ∨ j < x46.toInt) → aI (G27.2.1 (F (F a 9) 5)) j = 0)
    (sb : 0 ≤ ((G.1 (F a 2) 2).toInt) ∧ ((G.1 (F a 2) 2).toInt) ≤ 12)
    (c1 : ¬ (p0.toInt < 0))
    (c6 : p0.toInt ≤ (2 : Int))
    (t27 : 0 ≤ ((G27.1 (F a 9) 6).toInt) ∧ ((G27.1 (F a 9) 6).toInt) ≤ 1080)
    (c31 : p0.toInt ≠ 0)
    (t46 : x46.toInt = -1 ∨ (0 ≤ x46.toInt ∧ x46.toInt < ((G27.1 (F a 9) 6).toInt) ∧ (aI (G27.2.1 (F (F a 9) 5)) (x46.toInt)) = 1))
    (c52 : ¬ (x46.toInt ≠ (-1 : Int))) :
    ((p0.toInt < 0 ∨ 2 < p0.toInt) ∧ (-1 : Int) = -2147483648) ∨ ((0 ≤ p0.toInt ∧ p0.toInt ≤ 2) ∧ (-1 : Int) = alS p0.toInt (fqL (gaL G (G.2.2.1 (F (F a 2) 1)) (vw (G.2.1 (F (F a 6) 0))) (vw (G.2.1 (F (F a 3) 0))) 0 (((G.1 (F a 2) 2).toInt)).toNat))) := by
  rw [← oq27]
  exact Or.inr ⟨by omega, (alS_nil (by omega) (ff_none (show x46.toInt = -1 by omega) oq46)).symm⟩
theorem v_X10_all_41_10 {K : Nat → Nat} {F : Nat → Nat → Nat} (a : Nat) (G : XG) (G27 : XG) (p0 : Int32)
    (ha : K a = 12)
    (oq27 : qL G27 F (F a 9) = gaL G (G.2.2.1 (F (F a 2) 1)) (vw (G.2.1 (F (F a 6) 0))) (vw (G.2.1 (F (F a 3) 0))) (0 : Int) (((G.1 (F a 2) 2).toInt)).toNat)
    (sb : 0 ≤ ((G.1 (F a 2) 2).toInt) ∧ ((G.1 (F a 2) 2).toInt) ≤ 12)
    (c1 : ¬ (p0.toInt < 0))
    (c6 : p0.toInt ≤ (2 : Int))
    (t27 : 0 ≤ ((G27.1 (F a 9) 6).toInt) ∧ ((G27.1 (F a 9) 6).toInt) ≤ 1080)
    (c31 : ¬ (p0.toInt ≠ 0)) :
    ((p0.toInt < 0 ∨ 2 < p0.toInt) ∧ (hv (aI (G27.2.1 (F (F a 9) 5))) 0 1 ((G27.1 (F a 9) 6).toInt)) = -2147483648) ∨ ((0 ≤ p0.toInt ∧ p0.toInt ≤ 2) ∧ (hv (aI (G27.2.1 (F (F a 9) 5))) 0 1 ((G27.1 (F a 9) 6).toInt)) = alS p0.toInt (fqL (gaL G (G.2.2.1 (F (F a 2) 1)) (vw (G.2.1 (F (F a 6) 0))) (vw (G.2.1 (F (F a 3) 0))) 0 (((G.1 (F a 2) 2).toInt)).toNat))) := by
  refine Or.inr ⟨by omega, ?_⟩
  rw [← oq27, alS_len (by omega), ← hv_qL5]
theorem v_X10_all_12_11 {K : Nat → Nat} {F : Nat → Nat → Nat} (a : Nat) (G : XG) (p0 : Int32)
    (ha : K a = 12)
    (sb : 0 ≤ ((G.1 (F a 2) 2).toInt) ∧ ((G.1 (F a 2) 2).toInt) ≤ 12)
    (c1 : ¬ (p0.toInt < 0))
    (c6 : ¬ (p0.toInt ≤ (2 : Int))) :
    ((p0.toInt < 0 ∨ 2 < p0.toInt) ∧ (-2147483648 : Int) = -2147483648) ∨ ((0 ≤ p0.toInt ∧ p0.toInt ≤ 2) ∧ (-2147483648 : Int) = alS p0.toInt (fqL (gaL G (G.2.2.1 (F (F a 2) 1)) (vw (G.2.1 (F (F a 6) 0))) (vw (G.2.1 (F (F a 3) 0))) 0 (((G.1 (F a 2) 2).toInt)).toNat))) := by
  exact Or.inl ⟨by omega, rfl⟩
theorem v_X10_answerOnPaper_14_1 {F : Nat → Nat → Nat} (a : Nat) (G : XG)
    (ron : RO (vw (G.2.1 (F (F a 3) 0))) (aI (G.2.1 (F (F a 3) 1)))) :
    RO (vw (G.2.1 (F (F a 3) 0))) (aI (G.2.1 (F (F a 3) 1))) := by exact ron
theorem v_X10_answerOnPaper_14_2 {F : Nat → Nat → Nat} (a : Nat) (G : XG)
    (rop : RO (vw (G.2.1 (F (F a 5) 0))) (aI (G.2.1 (F (F a 5) 1)))) :
    RO (vw (G.2.1 (F (F a 5) 0))) (aI (G.2.1 (F (F a 5) 1))) := by exact rop
theorem v_X10_answerOnPaper_14_3 {K : Nat → Nat} {F : Nat → Nat → Nat} (G : XG) (a : Nat)
    (bko : BKr K G (G.2.2.1 (F (F a 2) 1))) :
    ∀ (i q : Nat), i < 12 → G.2.2.1 (F (F a 2) 1) i = some q → RW (G.1 q) := by
  exact bko.rw
theorem v_X10_answerOnPaper_14_4 {K : Nat → Nat} {F : Nat → Nat → Nat} (a : Nat) (G : XG)
    (ha : K a = 12)
    (hk9999 : K (F a 11) = 3)
    (hj9999 : F (F a 11) 99 = 0)
    (hk9999a : K (F a 9) = 6)
    (hj9999a : F (F a 9) 99 = 1)
    (hk9999b : K (F (F a 11) 0) = 21)
    (hj9999b : F (F (F a 11) 0) 99 = 100)
    (hk9999c : K (F (F a 11) 1) = 21)
    (hj9999c : F (F (F a 11) 1) 99 = 101)
    (hk9999d : K (F (F a 11) 2) = 24)
    (hj9999d : F (F (F a 11) 2) 99 = 4)
    (hk9999e : K (F (F a 9) 0) = 22)
    (hj9999f : F (F (F a 9) 0) 99 = 10 * 1 + 0)
    (hk9999f : K (F (F a 9) 1) = 22)
    (hj9999h : F (F (F a 9) 1) 99 = 10 * 1 + 1)
    (hk9999g : K (F (F a 9) 2) = 22)
    (hj9999j : F (F (F a 9) 2) 99 = 10 * 1 + 2)
    (hk9999h : K (F (F a 9) 3) = 22)
    (hj9999l : F (F (F a 9) 3) 99 = 10 * 1 + 3)
    (hk9999i : K (F (F a 9) 4) = 23)
    (hj9999n : F (F (F a 9) 4) 99 = 10 * 1 + 4)
    (hk9999j : K (F (F a 9) 5) = 23)
    (hj9999p : F (F (F a 9) 5) 99 = 10 * 1 + 5)
    (hk9999k : K (F a 2) = 2)
    (hj9999q : F (F a 2) 99 = 0)
    (hk9999l : K (F (F a 2) 1) = 15)
    (hj9999r : F (F (F a 2) 1) 99 = 1)
    (hk9999m : K (F a 5) = 8)
    (hj9999s : F (F a 5) 99 = 2)
    (hk9999n : K (F (F a 5) 0) = 20)
    (hj9999u : F (F (F a 5) 0) 99 = 2)
    (hk9999o : K (F (F a 5) 1) = 21)
    (hj9999w : F (F (F a 5) 1) 99 = 2)
    (hk9999p : K (F a 3) = 8)
    (hj9999y : F (F a 3) 99 = 0)
    (hk9999q : K (F (F a 3) 0) = 20)
    (hj9999z26 : F (F (F a 3) 0) 99 = 0)
    (hk9999r : K (F (F a 3) 1) = 21)
    (hj9999z28 : F (F (F a 3) 1) 99 = 0)
    (ron : RO (vw (G.2.1 (F (F a 3) 0))) (aI (G.2.1 (F (F a 3) 1))))
    (rop : RO (vw (G.2.1 (F (F a 5) 0))) (aI (G.2.1 (F (F a 5) 1))))
    (bko : BKr K G (G.2.2.1 (F (F a 2) 1)))
    (sb : 0 ≤ ((G.1 (F a 2) 2).toInt) ∧ ((G.1 (F a 2) 2).toInt) ≤ 12) :
    F (F a 3) 99 < 12 := by
  first | assumption | omega
theorem v_X10_answerOnPaper_14_5 {K : Nat → Nat} {F : Nat → Nat → Nat} (a : Nat) (G : XG)
    (ha : K a = 12)
    (hk9999 : K (F a 11) = 3)
    (hj9999 : F (F a 11) 99 = 0)
    (hk9999a : K (F a 9) = 6)
    (hj9999a : F (F a 9) 99 = 1)
    (hk9999b : K (F (F a 11) 0) = 21)
    (hj9999b : F (F (F a 11) 0) 99 = 100)
    (hk9999c : K (F (F a 11) 1) = 21)
    (hj9999c : F (F (F a 11) 1) 99 = 101)
    (hk9999d : K (F (F a 11) 2) = 24)
    (hj9999d : F (F (F a 11) 2) 99 = 4)
    (hk9999e : K (F (F a 9) 0) = 22)
    (hj9999f : F (F (F a 9) 0) 99 = 10 * 1 + 0)
    (hk9999f : K (F (F a 9) 1) = 22)
    (hj9999h : F (F (F a 9) 1) 99 = 10 * 1 + 1)
    (hk9999g : K (F (F a 9) 2) = 22)
    (hj9999j : F (F (F a 9) 2) 99 = 10 * 1 + 2)
    (hk9999h : K (F (F a 9) 3) = 22)
    (hj9999l : F (F (F a 9) 3) 99 = 10 * 1 + 3)
    (hk9999i : K (F (F a 9) 4) = 23)
    (hj9999n : F (F (F a 9) 4) 99 = 10 * 1 + 4)
    (hk9999j : K (F (F a 9) 5) = 23)
    (hj9999p : F (F (F a 9) 5) 99 = 10 * 1 + 5)
    (hk9999k : K (F a 2) = 2)
    (hj9999q : F (F a 2) 99 = 0)
    (hk9999l : K (F (F a 2) 1) = 15)
    (hj9999r : F (F (F a 2) 1) 99 = 1)
    (hk9999m : K (F a 5) = 8)
    (hj9999s : F (F a 5) 99 = 2)
    (hk9999n : K (F (F a 5) 0) = 20)
    (hj9999u : F (F (F a 5) 0) 99 = 2)
    (hk9999o : K (F (F a 5) 1) = 21)
    (hj9999w : F (F (F a 5) 1) 99 = 2)
    (hk9999p : K (F a 3) = 8)
    (hj9999y : F (F a 3) 99 = 0)
    (hk9999q : K (F (F a 3) 0) = 20)
    (hj9999z26 : F (F (F a 3) 0) 99 = 0)
    (hk9999r : K (F (F a 3) 1) = 21)
    (hj9999z28 : F (F (F a 3) 1) 99 = 0)
    (ron : RO (vw (G.2.1 (F (F a 3) 0))) (aI (G.2.1 (F (F a 3) 1))))
    (rop : RO (vw (G.2.1 (F (F a 5) 0))) (aI (G.2.1 (F (F a 5) 1))))
    (bko : BKr K G (G.2.2.1 (F (F a 2) 1)))
    (sb : 0 ≤ ((G.1 (F a 2) 2).toInt) ∧ ((G.1 (F a 2) 2).toInt) ≤ 12) :
    F (F a 5) 99 < 12 := by
  first | assumption | omega
theorem v_X10_answerOnPaper_75_6 {K : Nat → Nat} {F : Nat → Nat → Nat} (a : Nat) (G : XG) (G14 : XG) (l1_19 : Int32) (N19 : Nat)
    (ha : K a = 12)
    (oq14 : qL G14 F (F a 9) = gaL G (G.2.2.1 (F (F a 2) 1)) (vw (G.2.1 (F (F a 3) 0))) (vw (G.2.1 (F (F a 5) 0))) (0 : Int) (((G.1 (F a 2) 2).toInt)).toNat)
    (pa : ∀ j : Int, 0 ≤ j → j < l1_19.toInt → aI (G14.2.1 (F (F a 9) 5)) j ≠ 0 → (G.1 a 18).toInt ≠ 0 ∧ aI (G14.2.1 (F (F a 9) 4)) j ≠ 0)
    (sb : 0 ≤ ((G.1 (F a 2) 2).toInt) ∧ ((G.1 (F a 2) 2).toInt) ≤ 12)
    (t14 : 0 ≤ ((G14.1 (F a 9) 6).toInt) ∧ ((G14.1 (F a 9) 6).toInt) ≤ 1080)
    (I19_0 : (0 : Int) ≤ l1_19.toInt)
    (hm19 : 2147483648 - l1_19.toInt < (((N19) + 1 : Nat) : Int))
    (c27 : ((G14.1 (F a 9) 6).toInt) ≤ l1_19.toInt) :
    AnsR ((G.1 a 18).toInt) ((G14.1 (F a 9) 6).toInt) (gaL G (G.2.2.1 (F (F a 2) 1)) (vw (G.2.1 (F (F a 3) 0))) (vw (G.2.1 (F (F a 5) 0))) 0 (((G.1 (F a 2) 2).toInt)).toNat) := by
  unfold AnsR
  rw [← oq14]
  refine Or.inr ⟨?_, ?_⟩
  · rw [qL_len]; omega
  · exact ql_all (P := fun x => x.2.2.2.2.2 ≠ 0 → ((G.1 a 18).toInt) ≠ 0 ∧ x.2.2.2.2.1 ≠ 0) (fun j h1 h2 => pa j h1 (by omega))
theorem v_X10_answerOnPaper_65_7 {K : Nat → Nat} {F : Nat → Nat → Nat} (a : Nat) (G : XG) (G14 : XG) (l1_19 : Int32) (N19 : Nat) (x35 : Int32)
    (ha : K a = 12)
    (pa : ∀ j : Int, 0 ≤ j → j < l1_19.toInt → aI (G14.2.1 (F (F a 9) 5)) j ≠ 0 → (G.1 a 18).toInt ≠ 0 ∧ aI (G14.2.1 (F (F a 9) 4)) j ≠ 0)
    (sb : 0 ≤ ((G.1 (F a 2) 2).toInt) ∧ ((G.1 (F a 2) 2).toInt) ≤ 12)
    (t14 : 0 ≤ ((G14.1 (F a 9) 6).toInt) ∧ ((G14.1 (F a 9) 6).toInt) ≤ 1080)
    (I19_0 : (0 : Int) ≤ l1_19.toInt)
    (hm19 : 2147483648 - l1_19.toInt < (((N19) + 1 : Nat) : Int))
    (c27 : ¬ (((G14.1 (F a 9) 6).toInt) ≤ l1_19.toInt))
    (t35 : ((0 ≤ l1_19.toInt ∧ l1_19.toInt < ((G14.1 (F a 9) 6).toInt) ∧ l1_19.toInt < 1080) ∧ x35.toInt = (aI (G14.2.1 (F (F a 9) 5)) (l1_19.toInt))) ∨ (¬ (0 ≤ l1_19.toInt ∧ l1_19.toInt < ((G14.1 (F a 9) 6).toInt) ∧ l1_19.toInt < 1080) ∧ x35.toInt = 0))
    (f53 : x35.toInt = 0 ∨ x35.toInt = 1)
    (c38 : x35.toInt = 0) :
    ∀ j : Int, 0 ≤ j → j < (l1_19.toInt + 1) → aI (G14.2.1 (F (F a 9) 5)) j ≠ 0 → (G.1 a 18).toInt ≠ 0 ∧ aI (G14.2.1 (F (F a 9) 4)) j ≠ 0 := by
  intro j h1 h2 h3
  by_cases e : j = l1_19.toInt
  · subst e
    first
      | exact absurd h3 (by omega)
      | exact ⟨by omega, by omega⟩
  · exact pa j h1 (by omega) h3
theorem v_X10_answerOnPaper_61_8 {K : Nat → Nat} {F : Nat → Nat → Nat} (a : Nat) (G : XG) (G14 : XG) (l1_19 : Int32) (N19 : Nat) (x35 : Int32)
    (ha : K a = 12)
    (oq14 : qL G14 F (F a 9) = gaL G (G.2.2.1 (F (F a 2) 1)) (vw (G.2.1 (F (F a 3) 0))) (vw (G.2.1 (F (F a 5) 0))) (0 : Int) (((G.1 (F a 2) 2).toInt)).toNat)
    (sb : 0 ≤ ((G.1 (F a 2) 2).toInt) ∧ ((G.1 (F a 2) 2).toInt) ≤ 12)
    (t14 : 0 ≤ ((G14.1 (F a 9) 6).toInt) ∧ ((G14.1 (F a 9) 6).toInt) ≤ 1080)
    (I19_0 : (0 : Int) ≤ l1_19.toInt)
    (hm19 : 2147483648 - l1_19.toInt < (((N19) + 1 : Nat) : Int))
    (c27 : ¬ (((G14.1 (F a 9) 6).toInt) ≤ l1_19.toInt))
    (t35 : ((0 ≤ l1_19.toInt ∧ l1_19.toInt < ((G14.1 (F a 9) 6).toInt) ∧ l1_19.toInt < 1080) ∧ x35.toInt = (aI (G14.2.1 (F (F a 9) 5)) (l1_19.toInt))) ∨ (¬ (0 ≤ l1_19.toInt ∧ l1_19.toInt < ((G14.1 (F a 9) 6).toInt) ∧ l1_19.toInt < 1080) ∧ x35.toInt = 0))
    (f52 : x35.toInt = 0 ∨ x35.toInt = 1)
    (c38 : ¬ (x35.toInt = 0))
    (f54 : ((G.1 a 18).toInt) = 0 ∨ ((G.1 a 18).toInt) = 1)
    (c45 : ((G.1 a 18).toInt) = 0) :
    AnsR ((G.1 a 18).toInt) (-5 : Int) (gaL G (G.2.2.1 (F (F a 2) 1)) (vw (G.2.1 (F (F a 3) 0))) (vw (G.2.1 (F (F a 5) 0))) 0 (((G.1 (F a 2) 2).toInt)).toNat) := by
  unfold AnsR
  rw [← oq14]
  exact Or.inl ⟨rfl, _, List.mem_of_getElem? (qL_at (z := l1_19.toInt) (by omega)), show aI (G14.2.1 (F (F a 9) 5)) l1_19.toInt ≠ 0 by omega, (by first | exact Or.inl c45 | exact Or.inr (show aI (G14.2.1 (F (F a 9) 4)) l1_19.toInt = 0 by omega))⟩
theorem v_X10_answerOnPaper_65_9 {K : Nat → Nat} {F : Nat → Nat → Nat} (a : Nat) (G : XG) (G14 : XG) (l1_19 : Int32) (N19 : Nat) (x35 : Int32) (x53 : Int32)
    (ha : K a = 12)
    (pa : ∀ j : Int, 0 ≤ j → j < l1_19.toInt → aI (G14.2.1 (F (F a 9) 5)) j ≠ 0 → (G.1 a 18).toInt ≠ 0 ∧ aI (G14.2.1 (F (F a 9) 4)) j ≠ 0)
    (sb : 0 ≤ ((G.1 (F a 2) 2).toInt) ∧ ((G.1 (F a 2) 2).toInt) ≤ 12)
    (t14 : 0 ≤ ((G14.1 (F a 9) 6).toInt) ∧ ((G14.1 (F a 9) 6).toInt) ≤ 1080)
    (I19_0 : (0 : Int) ≤ l1_19.toInt)
    (hm19 : 2147483648 - l1_19.toInt < (((N19) + 1 : Nat) : Int))
    (c27 : ¬ (((G14.1 (F a 9) 6).toInt) ≤ l1_19.toInt))
    (t35 : ((0 ≤ l1_19.toInt ∧ l1_19.toInt < ((G14.1 (F a 9) 6).toInt) ∧ l1_19.toInt < 1080) ∧ x35.toInt = (aI (G14.2.1 (F (F a 9) 5)) (l1_19.toInt))) ∨ (¬ (0 ≤ l1_19.toInt ∧ l1_19.toInt < ((G14.1 (F a 9) 6).toInt) ∧ l1_19.toInt < 1080) ∧ x35.toInt = 0))
    (f53 : x35.toInt = 0 ∨ x35.toInt = 1)
    (c38 : ¬ (x35.toInt = 0))
    (f55 : ((G.1 a 18).toInt) = 0 ∨ ((G.1 a 18).toInt) = 1)
    (c45 : ¬ (((G.1 a 18).toInt) = 0))
    (t53 : ((0 ≤ l1_19.toInt ∧ l1_19.toInt < ((G14.1 (F a 9) 6).toInt) ∧ l1_19.toInt < 1080) ∧ x53.toInt = (aI (G14.2.1 (F (F a 9) 4)) (l1_19.toInt))) ∨ (¬ (0 ≤ l1_19.toInt ∧ l1_19.toInt < ((G14.1 (F a 9) 6).toInt) ∧ l1_19.toInt < 1080) ∧ x53.toInt = 0))
    (f58 : x53.toInt = 0 ∨ x53.toInt = 1)
    (c56 : x53.toInt ≠ 0) :
    ∀ j : Int, 0 ≤ j → j < (l1_19.toInt + 1) → aI (G14.2.1 (F (F a 9) 5)) j ≠ 0 → (G.1 a 18).toInt ≠ 0 ∧ aI (G14.2.1 (F (F a 9) 4)) j ≠ 0 := by
  intro j h1 h2 h3
  by_cases e : j = l1_19.toInt
  · subst e
    first
      | exact absurd h3 (by omega)
      | exact ⟨by omega, by omega⟩
  · exact pa j h1 (by omega) h3
theorem v_X10_answerOnPaper_61_10 {K : Nat → Nat} {F : Nat → Nat → Nat} (a : Nat) (G : XG) (G14 : XG) (l1_19 : Int32) (N19 : Nat) (x35 : Int32) (x53 : Int32)
    (ha : K a = 12)
    (oq14 : qL G14 F (F a 9) = gaL G (G.2.2.1 (F (F a 2) 1)) (vw (G.2.1 (F (F a 3) 0))) (vw (G.2.1 (F (F a 5) 0))) (0 : Int) (((G.1 (F a 2) 2).toInt)).toNat)
    (sb : 0 ≤ ((G.1 (F a 2) 2).toInt) ∧ ((G.1 (F a 2) 2).toInt) ≤ 12)
    (t14 : 0 ≤ ((G14.1 (F a 9) 6).toInt) ∧ ((G14.1 (F a 9) 6).toInt) ≤ 1080)
    (I19_0 : (0 : Int) ≤ l1_19.toInt)
    (hm19 : 2147483648 - l1_19.toInt < (((N19) + 1 : Nat) : Int))
    (c27 : ¬ (((G14.1 (F a 9) 6).toInt) ≤ l1_19.toInt))
    (t35 : ((0 ≤ l1_19.toInt ∧ l1_19.toInt < ((G14.1 (F a 9) 6).toInt) ∧ l1_19.toInt < 1080) ∧ x35.toInt = (aI (G14.2.1 (F (F a 9) 5)) (l1_19.toInt))) ∨ (¬ (0 ≤ l1_19.toInt ∧ l1_19.toInt < ((G14.1 (F a 9) 6).toInt) ∧ l1_19.toInt < 1080) ∧ x35.toInt = 0))
    (f52 : x35.toInt = 0 ∨ x35.toInt = 1)
    (c38 : ¬ (x35.toInt = 0))
    (f54 : ((G.1 a 18).toInt) = 0 ∨ ((G.1 a 18).toInt) = 1)
    (c45 : ¬ (((G.1 a 18).toInt) = 0))
    (t53 : ((0 ≤ l1_19.toInt ∧ l1_19.toInt < ((G14.1 (F a 9) 6).toInt) ∧ l1_19.toInt < 1080) ∧ x53.toInt = (aI (G14.2.1 (F (F a 9) 4)) (l1_19.toInt))) ∨ (¬ (0 ≤ l1_19.toInt ∧ l1_19.toInt < ((G14.1 (F a 9) 6).toInt) ∧ l1_19.toInt < 1080) ∧ x53.toInt = 0))
    (f57 : x53.toInt = 0 ∨ x53.toInt = 1)
    (c56 : ¬ (x53.toInt ≠ 0)) :
    AnsR ((G.1 a 18).toInt) (-5 : Int) (gaL G (G.2.2.1 (F (F a 2) 1)) (vw (G.2.1 (F (F a 3) 0))) (vw (G.2.1 (F (F a 5) 0))) 0 (((G.1 (F a 2) 2).toInt)).toNat) := by
  unfold AnsR
  rw [← oq14]
  exact Or.inl ⟨rfl, _, List.mem_of_getElem? (qL_at (z := l1_19.toInt) (by omega)), show aI (G14.2.1 (F (F a 9) 5)) l1_19.toInt ≠ 0 by omega, (by first | exact Or.inl c45 | exact Or.inr (show aI (G14.2.1 (F (F a 9) 4)) l1_19.toInt = 0 by omega))⟩
theorem v_X10_answerOnPaper_18_11 {K : Nat → Nat} {F : Nat → Nat → Nat} (a : Nat) (G : XG) (G14 : XG)
    (ha : K a = 12)
    (sb : 0 ≤ ((G.1 (F a 2) 2).toInt) ∧ ((G.1 (F a 2) 2).toInt) ≤ 12)
    (t14 : 0 ≤ ((G14.1 (F a 9) 6).toInt) ∧ ((G14.1 (F a 9) 6).toInt) ≤ 1080) :
    ∀ j : Int, 0 ≤ j → j < (0 : Int) → aI (G14.2.1 (F (F a 9) 5)) j ≠ 0 → (G.1 a 18).toInt ≠ 0 ∧ aI (G14.2.1 (F (F a 9) 4)) j ≠ 0 := by
  intro j h1 h2; exact absurd h1 (by omega)
theorem v_X10_rows_41_1 {F : Nat → Nat → Nat} (a : Nat) (G : XG)
    (ron : RO (vw (G.2.1 (F (F a 3) 0))) (aI (G.2.1 (F (F a 3) 1)))) :
    RO (vw (G.2.1 (F (F a 3) 0))) (aI (G.2.1 (F (F a 3) 1))) := by exact ron
theorem v_X10_told_16_1 {F : Nat → Nat → Nat} (a : Nat) (p0 : Int32) (G : XG) (p1 : Int32)
    (hn5 : (p0.toInt < 0 ∨ 12 ≤ p0.toInt) ∨ G.2.2.1 (F (F a 2) 0) (p0.toInt).toNat = none) :
    (((p0.toInt < 0 ∨ 12 ≤ p0.toInt) ∨ G.2.2.1 (F (F a 2) 0) (p0.toInt).toNat = none) ∧ (-2147483648 : Int) = -2147483648) ∨ (∃ q : Nat, ((0 ≤ p0.toInt ∧ p0.toInt < 12) ∧ G.2.2.1 (F (F a 2) 0) (p0.toInt).toNat = some q) ∧ (-2147483648 : Int) = tdC (G.1 q) (cnQ (qL G F (F a 8)) p0.toInt) p1.toInt) := by
  exact Or.inl ⟨hn5, rfl⟩
theorem v_X10_told_137_2 {K : Nat → Nat} {F : Nat → Nat → Nat} (a : Nat) (q5 : Nat) (G : XG) (p0 : Int32) (p1 : Int32)
    (ha : K a = 12)
    (hs5 : G.2.2.1 (F (F a 2) 0) (p0.toInt).toNat = some q5)
    (w8 : 0 ≤ ((G.1 (F a 8) 6).toInt) ∧ ((G.1 (F a 8) 6).toInt) ≤ 1080)
    (ht5 : 0 ≤ p0.toInt ∧ p0.toInt < 12)
    (c18 : p1.toInt < 0 ∨ 9 < p1.toInt) :
    (((p0.toInt < 0 ∨ 12 ≤ p0.toInt) ∨ G.2.2.1 (F (F a 2) 0) (p0.toInt).toNat = none) ∧ (-2147483648 : Int) = -2147483648) ∨ (∃ q : Nat, ((0 ≤ p0.toInt ∧ p0.toInt < 12) ∧ G.2.2.1 (F (F a 2) 0) (p0.toInt).toNat = some q) ∧ (-2147483648 : Int) = tdC (G.1 q) (cnQ (qL G F (F a 8)) p0.toInt) p1.toInt) := by
  exact Or.inr ⟨q5, ⟨ht5, hs5⟩, (tdC_o (by omega)).symm⟩
theorem v_X10_told_76_3 {F : Nat → Nat → Nat} (a : Nat) (q5 : Nat) (G : XG) (p0 : Int32) (p1 : Int32)
    (hs5 : G.2.2.1 (F (F a 2) 0) (p0.toInt).toNat = some q5)
    (ht5 : 0 ≤ p0.toInt ∧ p0.toInt < 12)
    (c18 : p1.toInt = 0) :
    (((p0.toInt < 0 ∨ 12 ≤ p0.toInt) ∨ G.2.2.1 (F (F a 2) 0) (p0.toInt).toNat = none) ∧ ((G.1 q5 0).toInt) = -2147483648) ∨ (∃ q : Nat, ((0 ≤ p0.toInt ∧ p0.toInt < 12) ∧ G.2.2.1 (F (F a 2) 0) (p0.toInt).toNat = some q) ∧ ((G.1 q5 0).toInt) = tdC (G.1 q) (cnQ (qL G F (F a 8)) p0.toInt) p1.toInt) := by
  exact Or.inr ⟨q5, ⟨ht5, hs5⟩, (tdC_0 c18).symm⟩
theorem v_X10_told_81_4 {F : Nat → Nat → Nat} (a : Nat) (q5 : Nat) (G : XG) (p0 : Int32) (p1 : Int32)
    (hs5 : G.2.2.1 (F (F a 2) 0) (p0.toInt).toNat = some q5)
    (ht5 : 0 ≤ p0.toInt ∧ p0.toInt < 12)
    (c18 : p1.toInt = 1) :
    (((p0.toInt < 0 ∨ 12 ≤ p0.toInt) ∨ G.2.2.1 (F (F a 2) 0) (p0.toInt).toNat = none) ∧ ((G.1 q5 2).toInt) = -2147483648) ∨ (∃ q : Nat, ((0 ≤ p0.toInt ∧ p0.toInt < 12) ∧ G.2.2.1 (F (F a 2) 0) (p0.toInt).toNat = some q) ∧ ((G.1 q5 2).toInt) = tdC (G.1 q) (cnQ (qL G F (F a 8)) p0.toInt) p1.toInt) := by
  exact Or.inr ⟨q5, ⟨ht5, hs5⟩, (tdC_1 c18).symm⟩
theorem v_X10_told_86_5 {F : Nat → Nat → Nat} (a : Nat) (q5 : Nat) (G : XG) (p0 : Int32) (p1 : Int32)
    (hs5 : G.2.2.1 (F (F a 2) 0) (p0.toInt).toNat = some q5)
    (ht5 : 0 ≤ p0.toInt ∧ p0.toInt < 12)
    (c18 : p1.toInt = 2) :
    (((p0.toInt < 0 ∨ 12 ≤ p0.toInt) ∨ G.2.2.1 (F (F a 2) 0) (p0.toInt).toNat = none) ∧ ((G.1 q5 3).toInt) = -2147483648) ∨ (∃ q : Nat, ((0 ≤ p0.toInt ∧ p0.toInt < 12) ∧ G.2.2.1 (F (F a 2) 0) (p0.toInt).toNat = some q) ∧ ((G.1 q5 3).toInt) = tdC (G.1 q) (cnQ (qL G F (F a 8)) p0.toInt) p1.toInt) := by
  exact Or.inr ⟨q5, ⟨ht5, hs5⟩, (tdC_2 c18).symm⟩
theorem v_X10_told_91_6 {F : Nat → Nat → Nat} (a : Nat) (q5 : Nat) (G : XG) (p0 : Int32) (p1 : Int32)
    (hs5 : G.2.2.1 (F (F a 2) 0) (p0.toInt).toNat = some q5)
    (ht5 : 0 ≤ p0.toInt ∧ p0.toInt < 12)
    (c18 : p1.toInt = 3) :
    (((p0.toInt < 0 ∨ 12 ≤ p0.toInt) ∨ G.2.2.1 (F (F a 2) 0) (p0.toInt).toNat = none) ∧ ((G.1 q5 4).toInt) = -2147483648) ∨ (∃ q : Nat, ((0 ≤ p0.toInt ∧ p0.toInt < 12) ∧ G.2.2.1 (F (F a 2) 0) (p0.toInt).toNat = some q) ∧ ((G.1 q5 4).toInt) = tdC (G.1 q) (cnQ (qL G F (F a 8)) p0.toInt) p1.toInt) := by
  exact Or.inr ⟨q5, ⟨ht5, hs5⟩, (tdC_3 c18).symm⟩
theorem v_X10_told_96_7 {F : Nat → Nat → Nat} (a : Nat) (q5 : Nat) (G : XG) (p0 : Int32) (p1 : Int32)
    (hs5 : G.2.2.1 (F (F a 2) 0) (p0.toInt).toNat = some q5)
    (ht5 : 0 ≤ p0.toInt ∧ p0.toInt < 12)
    (c18 : p1.toInt = 4) :
    (((p0.toInt < 0 ∨ 12 ≤ p0.toInt) ∨ G.2.2.1 (F (F a 2) 0) (p0.toInt).toNat = none) ∧ ((G.1 q5 5).toInt) = -2147483648) ∨ (∃ q : Nat, ((0 ≤ p0.toInt ∧ p0.toInt < 12) ∧ G.2.2.1 (F (F a 2) 0) (p0.toInt).toNat = some q) ∧ ((G.1 q5 5).toInt) = tdC (G.1 q) (cnQ (qL G F (F a 8)) p0.toInt) p1.toInt) := by
  exact Or.inr ⟨q5, ⟨ht5, hs5⟩, (tdC_4 c18).symm⟩
theorem v_X10_told_101_8 {F : Nat → Nat → Nat} (a : Nat) (q5 : Nat) (G : XG) (p0 : Int32) (p1 : Int32)
    (hs5 : G.2.2.1 (F (F a 2) 0) (p0.toInt).toNat = some q5)
    (ht5 : 0 ≤ p0.toInt ∧ p0.toInt < 12)
    (c18 : p1.toInt = 5) :
    (((p0.toInt < 0 ∨ 12 ≤ p0.toInt) ∨ G.2.2.1 (F (F a 2) 0) (p0.toInt).toNat = none) ∧ ((G.1 q5 6).toInt) = -2147483648) ∨ (∃ q : Nat, ((0 ≤ p0.toInt ∧ p0.toInt < 12) ∧ G.2.2.1 (F (F a 2) 0) (p0.toInt).toNat = some q) ∧ ((G.1 q5 6).toInt) = tdC (G.1 q) (cnQ (qL G F (F a 8)) p0.toInt) p1.toInt) := by
  exact Or.inr ⟨q5, ⟨ht5, hs5⟩, (tdC_5 c18).symm⟩
theorem v_X10_told_114_9 {K : Nat → Nat} {F : Nat → Nat → Nat} (a : Nat) (q5 : Nat) (G : XG) (p0 : Int32) (p1 : Int32)
    (ha : K a = 12)
    (hs5 : G.2.2.1 (F (F a 2) 0) (p0.toInt).toNat = some q5)
    (w8 : 0 ≤ ((G.1 (F a 8) 6).toInt) ∧ ((G.1 (F a 8) 6).toInt) ≤ 1080)
    (ht5 : 0 ≤ p0.toInt ∧ p0.toInt < 12)
    (c18 : p1.toInt = 6)
    (f12 : ((G.1 q5 9).toInt) = 0 ∨ ((G.1 q5 9).toInt) = 1)
    (c106 : ((G.1 q5 9).toInt) = 0) :
    (((p0.toInt < 0 ∨ 12 ≤ p0.toInt) ∨ G.2.2.1 (F (F a 2) 0) (p0.toInt).toNat = none) ∧ (0 : Int) = -2147483648) ∨ (∃ q : Nat, ((0 ≤ p0.toInt ∧ p0.toInt < 12) ∧ G.2.2.1 (F (F a 2) 0) (p0.toInt).toNat = some q) ∧ (0 : Int) = tdC (G.1 q) (cnQ (qL G F (F a 8)) p0.toInt) p1.toInt) := by
  exact Or.inr ⟨q5, ⟨ht5, hs5⟩, (by rw [tdC_6 c18]; omega)⟩
theorem v_X10_told_114_10 {K : Nat → Nat} {F : Nat → Nat → Nat} (a : Nat) (q5 : Nat) (G : XG) (p0 : Int32) (p1 : Int32)
    (ha : K a = 12)
    (hs5 : G.2.2.1 (F (F a 2) 0) (p0.toInt).toNat = some q5)
    (w8 : 0 ≤ ((G.1 (F a 8) 6).toInt) ∧ ((G.1 (F a 8) 6).toInt) ≤ 1080)
    (ht5 : 0 ≤ p0.toInt ∧ p0.toInt < 12)
    (c18 : p1.toInt = 6)
    (f12 : ((G.1 q5 9).toInt) = 0 ∨ ((G.1 q5 9).toInt) = 1)
    (c106 : ¬ (((G.1 q5 9).toInt) = 0)) :
    (((p0.toInt < 0 ∨ 12 ≤ p0.toInt) ∨ G.2.2.1 (F (F a 2) 0) (p0.toInt).toNat = none) ∧ (1 : Int) = -2147483648) ∨ (∃ q : Nat, ((0 ≤ p0.toInt ∧ p0.toInt < 12) ∧ G.2.2.1 (F (F a 2) 0) (p0.toInt).toNat = some q) ∧ (1 : Int) = tdC (G.1 q) (cnQ (qL G F (F a 8)) p0.toInt) p1.toInt) := by
  exact Or.inr ⟨q5, ⟨ht5, hs5⟩, (by rw [tdC_6 c18]; omega)⟩
theorem v_X10_told_119_11 {F : Nat → Nat → Nat} (a : Nat) (q5 : Nat) (G : XG) (p0 : Int32) (p1 : Int32)
    (hs5 : G.2.2.1 (F (F a 2) 0) (p0.toInt).toNat = some q5)
    (ht5 : 0 ≤ p0.toInt ∧ p0.toInt < 12)
    (c18 : p1.toInt = 7) :
    (((p0.toInt < 0 ∨ 12 ≤ p0.toInt) ∨ G.2.2.1 (F (F a 2) 0) (p0.toInt).toNat = none) ∧ ((G.1 q5 8).toInt) = -2147483648) ∨ (∃ q : Nat, ((0 ≤ p0.toInt ∧ p0.toInt < 12) ∧ G.2.2.1 (F (F a 2) 0) (p0.toInt).toNat = some q) ∧ ((G.1 q5 8).toInt) = tdC (G.1 q) (cnQ (qL G F (F a 8)) p0.toInt) p1.toInt) := by
  exact Or.inr ⟨q5, ⟨ht5, hs5⟩, (tdC_7 c18).symm⟩
theorem v_X10_told_124_12 {F : Nat → Nat → Nat} (a : Nat) (q5 : Nat) (G : XG) (p0 : Int32) (p1 : Int32)
    (hs5 : G.2.2.1 (F (F a 2) 0) (p0.toInt).toNat = some q5)
    (ht5 : 0 ≤ p0.toInt ∧ p0.toInt < 12)
    (c18 : p1.toInt = 8) :
    (((p0.toInt < 0 ∨ 12 ≤ p0.toInt) ∨ G.2.2.1 (F (F a 2) 0) (p0.toInt).toNat = none) ∧ ((G.1 q5 7).toInt) = -2147483648) ∨ (∃ q : Nat, ((0 ≤ p0.toInt ∧ p0.toInt < 12) ∧ G.2.2.1 (F (F a 2) 0) (p0.toInt).toNat = some q) ∧ ((G.1 q5 7).toInt) = tdC (G.1 q) (cnQ (qL G F (F a 8)) p0.toInt) p1.toInt) := by
  exact Or.inr ⟨q5, ⟨ht5, hs5⟩, (tdC_8 c18).symm⟩
theorem v_X10_told_133_13 {F : Nat → Nat → Nat} (a : Nat) (q5 : Nat) (G : XG) (p0 : Int32) (p1 : Int32)
    (hs5 : G.2.2.1 (F (F a 2) 0) (p0.toInt).toNat = some q5)
    (ht5 : 0 ≤ p0.toInt ∧ p0.toInt < 12)
    (c18 : p1.toInt = 9) :
    (((p0.toInt < 0 ∨ 12 ≤ p0.toInt) ∨ G.2.2.1 (F (F a 2) 0) (p0.toInt).toNat = none) ∧ (hv (aI (G.2.1 (F (F a 8) 0))) 0 (p0.toInt) ((G.1 (F a 8) 6).toInt)) = -2147483648) ∨ (∃ q : Nat, ((0 ≤ p0.toInt ∧ p0.toInt < 12) ∧ G.2.2.1 (F (F a 2) 0) (p0.toInt).toNat = some q) ∧ (hv (aI (G.2.1 (F (F a 8) 0))) 0 (p0.toInt) ((G.1 (F a 8) 6).toInt)) = tdC (G.1 q) (cnQ (qL G F (F a 8)) p0.toInt) p1.toInt) := by
  exact Or.inr ⟨q5, ⟨ht5, hs5⟩, (by rw [tdC_9 c18]; exact hv_qL G F (F a 8) _)⟩
theorem v_X10_group_68_1 {K : Nat → Nat} {F : Nat → Nat → Nat} (a : Nat) (G : XG) (x45 : Int32) (p1 : Int32) (p0 : Int32) (x29 : Int32)
    (ha : K a = 12)
    (w8 : 0 ≤ ((G.1 (F a 8) 6).toInt) ∧ ((G.1 (F a 8) 6).toInt) ≤ 1080)
    (c1 : p1.toInt = 0)
    (c13 : p0.toInt ≠ (-1 : Int))
    (t29 : (x29.toInt = -1 ∧ (p0.toInt < 0 ∨ (stF (aI (G.2.1 (F (F a 8) 0))) ((G.1 (F a 8) 6).toInt)) ≤ p0.toInt)) ∨ ((0 ≤ x29.toInt ∧ x29.toInt < ((G.1 (F a 8) 6).toInt)) ∧ (x29.toInt = 0 ∨ (aI (G.2.1 (F (F a 8) 0)) (x29.toInt)) ≠ (aI (G.2.1 (F (F a 8) 0)) (x29.toInt - 1))) ∧ (stF (aI (G.2.1 (F (F a 8) 0))) (x29.toInt)) = p0.toInt))
    (c35 : x29.toInt ≠ (-1 : Int))
    (t45 : ((0 ≤ x29.toInt ∧ x29.toInt < ((G.1 (F a 8) 6).toInt) ∧ x29.toInt < 1080) ∧ x45.toInt = (aI (G.2.1 (F (F a 8) 0)) (x29.toInt))) ∨ (¬ (0 ≤ x29.toInt ∧ x29.toInt < ((G.1 (F a 8) 6).toInt) ∧ x29.toInt < 1080) ∧ x45.toInt = -1))
    (c51 : p1.toInt ≠ 0) :
    ((p1.toInt < 0 ∨ 1 < p1.toInt) ∧ (hv (aI (G.2.1 (F (F a 8) 0))) 0 (x45.toInt) ((G.1 (F a 8) 6).toInt)) = -1) ∨ ((0 ≤ p1.toInt ∧ p1.toInt ≤ 1) ∧ GrC (aI (G.2.1 (F (F a 8) 0))) ((G.1 (F a 8) 6).toInt) p0.toInt p1.toInt (hv (aI (G.2.1 (F (F a 8) 0))) 0 (x45.toInt) ((G.1 (F a 8) 6).toInt))) := by
  have h45 : x45.toInt = aI (G.2.1 (F (F a 8) 0)) x29.toInt := by omega
  refine Or.inr ⟨by omega, Or.inr (Or.inr ⟨x29.toInt, by omega, by omega, by omega, ?_⟩)⟩
  first
    | (exfalso; omega)
    | exact Or.inl ⟨by omega, h45⟩
    | exact Or.inr ⟨by omega, by rw [h45]⟩
theorem v_X10_group_68_2 {K : Nat → Nat} {F : Nat → Nat → Nat} (a : Nat) (G : XG) (p1 : Int32) (p0 : Int32) (x29 : Int32) (x45 : Int32)
    (ha : K a = 12)
    (w8 : 0 ≤ ((G.1 (F a 8) 6).toInt) ∧ ((G.1 (F a 8) 6).toInt) ≤ 1080)
    (c1 : p1.toInt = 0)
    (c13 : p0.toInt ≠ (-1 : Int))
    (t29 : (x29.toInt = -1 ∧ (p0.toInt < 0 ∨ (stF (aI (G.2.1 (F (F a 8) 0))) ((G.1 (F a 8) 6).toInt)) ≤ p0.toInt)) ∨ ((0 ≤ x29.toInt ∧ x29.toInt < ((G.1 (F a 8) 6).toInt)) ∧ (x29.toInt = 0 ∨ (aI (G.2.1 (F (F a 8) 0)) (x29.toInt)) ≠ (aI (G.2.1 (F (F a 8) 0)) (x29.toInt - 1))) ∧ (stF (aI (G.2.1 (F (F a 8) 0))) (x29.toInt)) = p0.toInt))
    (c35 : x29.toInt ≠ (-1 : Int))
    (t45 : ((0 ≤ x29.toInt ∧ x29.toInt < ((G.1 (F a 8) 6).toInt) ∧ x29.toInt < 1080) ∧ x45.toInt = (aI (G.2.1 (F (F a 8) 0)) (x29.toInt))) ∨ (¬ (0 ≤ x29.toInt ∧ x29.toInt < ((G.1 (F a 8) 6).toInt) ∧ x29.toInt < 1080) ∧ x45.toInt = -1))
    (c51 : ¬ (p1.toInt ≠ 0)) :
    ((p1.toInt < 0 ∨ 1 < p1.toInt) ∧ x45.toInt = -1) ∨ ((0 ≤ p1.toInt ∧ p1.toInt ≤ 1) ∧ GrC (aI (G.2.1 (F (F a 8) 0))) ((G.1 (F a 8) 6).toInt) p0.toInt p1.toInt x45.toInt) := by
  have h45 : x45.toInt = aI (G.2.1 (F (F a 8) 0)) x29.toInt := by omega
  refine Or.inr ⟨by omega, Or.inr (Or.inr ⟨x29.toInt, by omega, by omega, by omega, ?_⟩)⟩
  first
    | (exfalso; omega)
    | exact Or.inl ⟨by omega, h45⟩
    | exact Or.inr ⟨by omega, by rw [h45]⟩
theorem v_X10_group_39_3 {K : Nat → Nat} {F : Nat → Nat → Nat} (a : Nat) (G : XG) (p1 : Int32) (p0 : Int32) (x29 : Int32)
    (ha : K a = 12)
    (w8 : 0 ≤ ((G.1 (F a 8) 6).toInt) ∧ ((G.1 (F a 8) 6).toInt) ≤ 1080)
    (c1 : p1.toInt = 0)
    (c13 : p0.toInt ≠ (-1 : Int))
    (t29 : (x29.toInt = -1 ∧ (p0.toInt < 0 ∨ (stF (aI (G.2.1 (F (F a 8) 0))) ((G.1 (F a 8) 6).toInt)) ≤ p0.toInt)) ∨ ((0 ≤ x29.toInt ∧ x29.toInt < ((G.1 (F a 8) 6).toInt)) ∧ (x29.toInt = 0 ∨ (aI (G.2.1 (F (F a 8) 0)) (x29.toInt)) ≠ (aI (G.2.1 (F (F a 8) 0)) (x29.toInt - 1))) ∧ (stF (aI (G.2.1 (F (F a 8) 0))) (x29.toInt)) = p0.toInt))
    (c35 : ¬ (x29.toInt ≠ (-1 : Int))) :
    ((p1.toInt < 0 ∨ 1 < p1.toInt) ∧ (-1 : Int) = -1) ∨ ((0 ≤ p1.toInt ∧ p1.toInt ≤ 1) ∧ GrC (aI (G.2.1 (F (F a 8) 0))) ((G.1 (F a 8) 6).toInt) p0.toInt p1.toInt (-1 : Int)) := by
  exact Or.inr ⟨by omega, Or.inr (Or.inl ⟨by omega, by omega, rfl⟩)⟩
theorem v_X10_group_23_4 {K : Nat → Nat} {F : Nat → Nat → Nat} (a : Nat) (G : XG) (p1 : Int32) (p0 : Int32)
    (ha : K a = 12)
    (w8 : 0 ≤ ((G.1 (F a 8) 6).toInt) ∧ ((G.1 (F a 8) 6).toInt) ≤ 1080)
    (c1 : p1.toInt = 0)
    (c13 : ¬ (p0.toInt ≠ (-1 : Int))) :
    ((p1.toInt < 0 ∨ 1 < p1.toInt) ∧ (stF (aI (G.2.1 (F (F a 8) 0))) ((G.1 (F a 8) 6).toInt)) = -1) ∨ ((0 ≤ p1.toInt ∧ p1.toInt ≤ 1) ∧ GrC (aI (G.2.1 (F (F a 8) 0))) ((G.1 (F a 8) 6).toInt) p0.toInt p1.toInt (stF (aI (G.2.1 (F (F a 8) 0))) ((G.1 (F a 8) 6).toInt))) := by
  exact Or.inr ⟨by omega, Or.inl ⟨by omega, rfl⟩⟩
theorem v_X10_group_68_5 {K : Nat → Nat} {F : Nat → Nat → Nat} (a : Nat) (G : XG) (x45 : Int32) (p1 : Int32) (p0 : Int32) (x29 : Int32)
    (ha : K a = 12)
    (w8 : 0 ≤ ((G.1 (F a 8) 6).toInt) ∧ ((G.1 (F a 8) 6).toInt) ≤ 1080)
    (c1 : ¬ (p1.toInt = 0))
    (c6 : p1.toInt = (1 : Int))
    (c13 : p0.toInt ≠ (-1 : Int))
    (t29 : (x29.toInt = -1 ∧ (p0.toInt < 0 ∨ (stF (aI (G.2.1 (F (F a 8) 0))) ((G.1 (F a 8) 6).toInt)) ≤ p0.toInt)) ∨ ((0 ≤ x29.toInt ∧ x29.toInt < ((G.1 (F a 8) 6).toInt)) ∧ (x29.toInt = 0 ∨ (aI (G.2.1 (F (F a 8) 0)) (x29.toInt)) ≠ (aI (G.2.1 (F (F a 8) 0)) (x29.toInt - 1))) ∧ (stF (aI (G.2.1 (F (F a 8) 0))) (x29.toInt)) = p0.toInt))
    (c35 : x29.toInt ≠ (-1 : Int))
    (t45 : ((0 ≤ x29.toInt ∧ x29.toInt < ((G.1 (F a 8) 6).toInt) ∧ x29.toInt < 1080) ∧ x45.toInt = (aI (G.2.1 (F (F a 8) 0)) (x29.toInt))) ∨ (¬ (0 ≤ x29.toInt ∧ x29.toInt < ((G.1 (F a 8) 6).toInt) ∧ x29.toInt < 1080) ∧ x45.toInt = -1))
    (c51 : p1.toInt ≠ 0) :
    ((p1.toInt < 0 ∨ 1 < p1.toInt) ∧ (hv (aI (G.2.1 (F (F a 8) 0))) 0 (x45.toInt) ((G.1 (F a 8) 6).toInt)) = -1) ∨ ((0 ≤ p1.toInt ∧ p1.toInt ≤ 1) ∧ GrC (aI (G.2.1 (F (F a 8) 0))) ((G.1 (F a 8) 6).toInt) p0.toInt p1.toInt (hv (aI (G.2.1 (F (F a 8) 0))) 0 (x45.toInt) ((G.1 (F a 8) 6).toInt))) := by
  have h45 : x45.toInt = aI (G.2.1 (F (F a 8) 0)) x29.toInt := by omega
  refine Or.inr ⟨by omega, Or.inr (Or.inr ⟨x29.toInt, by omega, by omega, by omega, ?_⟩)⟩
  first
    | (exfalso; omega)
    | exact Or.inl ⟨by omega, h45⟩
    | exact Or.inr ⟨by omega, by rw [h45]⟩
theorem v_X10_group_68_6 {K : Nat → Nat} {F : Nat → Nat → Nat} (a : Nat) (G : XG) (p1 : Int32) (p0 : Int32) (x29 : Int32) (x45 : Int32)
    (ha : K a = 12)
    (w8 : 0 ≤ ((G.1 (F a 8) 6).toInt) ∧ ((G.1 (F a 8) 6).toInt) ≤ 1080)
    (c1 : ¬ (p1.toInt = 0))
    (c6 : p1.toInt = (1 : Int))
    (c13 : p0.toInt ≠ (-1 : Int))
    (t29 : (x29.toInt = -1 ∧ (p0.toInt < 0 ∨ (stF (aI (G.2.1 (F (F a 8) 0))) ((G.1 (F a 8) 6).toInt)) ≤ p0.toInt)) ∨ ((0 ≤ x29.toInt ∧ x29.toInt < ((G.1 (F a 8) 6).toInt)) ∧ (x29.toInt = 0 ∨ (aI (G.2.1 (F (F a 8) 0)) (x29.toInt)) ≠ (aI (G.2.1 (F (F a 8) 0)) (x29.toInt - 1))) ∧ (stF (aI (G.2.1 (F (F a 8) 0))) (x29.toInt)) = p0.toInt))
    (c35 : x29.toInt ≠ (-1 : Int))
    (t45 : ((0 ≤ x29.toInt ∧ x29.toInt < ((G.1 (F a 8) 6).toInt) ∧ x29.toInt < 1080) ∧ x45.toInt = (aI (G.2.1 (F (F a 8) 0)) (x29.toInt))) ∨ (¬ (0 ≤ x29.toInt ∧ x29.toInt < ((G.1 (F a 8) 6).toInt) ∧ x29.toInt < 1080) ∧ x45.toInt = -1))
    (c51 : ¬ (p1.toInt ≠ 0)) :
    ((p1.toInt < 0 ∨ 1 < p1.toInt) ∧ x45.toInt = -1) ∨ ((0 ≤ p1.toInt ∧ p1.toInt ≤ 1) ∧ GrC (aI (G.2.1 (F (F a 8) 0))) ((G.1 (F a 8) 6).toInt) p0.toInt p1.toInt x45.toInt) := by
  have h45 : x45.toInt = aI (G.2.1 (F (F a 8) 0)) x29.toInt := by omega
  refine Or.inr ⟨by omega, Or.inr (Or.inr ⟨x29.toInt, by omega, by omega, by omega, ?_⟩)⟩
  first
    | (exfalso; omega)
    | exact Or.inl ⟨by omega, h45⟩
    | exact Or.inr ⟨by omega, by rw [h45]⟩
theorem v_X10_group_39_7 {K : Nat → Nat} {F : Nat → Nat → Nat} (a : Nat) (G : XG) (p1 : Int32) (p0 : Int32) (x29 : Int32)
    (ha : K a = 12)
    (w8 : 0 ≤ ((G.1 (F a 8) 6).toInt) ∧ ((G.1 (F a 8) 6).toInt) ≤ 1080)
    (c1 : ¬ (p1.toInt = 0))
    (c6 : p1.toInt = (1 : Int))
    (c13 : p0.toInt ≠ (-1 : Int))
    (t29 : (x29.toInt = -1 ∧ (p0.toInt < 0 ∨ (stF (aI (G.2.1 (F (F a 8) 0))) ((G.1 (F a 8) 6).toInt)) ≤ p0.toInt)) ∨ ((0 ≤ x29.toInt ∧ x29.toInt < ((G.1 (F a 8) 6).toInt)) ∧ (x29.toInt = 0 ∨ (aI (G.2.1 (F (F a 8) 0)) (x29.toInt)) ≠ (aI (G.2.1 (F (F a 8) 0)) (x29.toInt - 1))) ∧ (stF (aI (G.2.1 (F (F a 8) 0))) (x29.toInt)) = p0.toInt))
    (c35 : ¬ (x29.toInt ≠ (-1 : Int))) :
    ((p1.toInt < 0 ∨ 1 < p1.toInt) ∧ (-1 : Int) = -1) ∨ ((0 ≤ p1.toInt ∧ p1.toInt ≤ 1) ∧ GrC (aI (G.2.1 (F (F a 8) 0))) ((G.1 (F a 8) 6).toInt) p0.toInt p1.toInt (-1 : Int)) := by
  exact Or.inr ⟨by omega, Or.inr (Or.inl ⟨by omega, by omega, rfl⟩)⟩
theorem v_X10_group_23_8 {K : Nat → Nat} {F : Nat → Nat → Nat} (a : Nat) (G : XG) (p1 : Int32) (p0 : Int32)
    (ha : K a = 12)
    (w8 : 0 ≤ ((G.1 (F a 8) 6).toInt) ∧ ((G.1 (F a 8) 6).toInt) ≤ 1080)
    (c1 : ¬ (p1.toInt = 0))
    (c6 : p1.toInt = (1 : Int))
    (c13 : ¬ (p0.toInt ≠ (-1 : Int))) :
    ((p1.toInt < 0 ∨ 1 < p1.toInt) ∧ (stF (aI (G.2.1 (F (F a 8) 0))) ((G.1 (F a 8) 6).toInt)) = -1) ∨ ((0 ≤ p1.toInt ∧ p1.toInt ≤ 1) ∧ GrC (aI (G.2.1 (F (F a 8) 0))) ((G.1 (F a 8) 6).toInt) p0.toInt p1.toInt (stF (aI (G.2.1 (F (F a 8) 0))) ((G.1 (F a 8) 6).toInt))) := by
  exact Or.inr ⟨by omega, Or.inl ⟨by omega, rfl⟩⟩
theorem v_X10_group_10_9 {K : Nat → Nat} {F : Nat → Nat → Nat} (a : Nat) (G : XG) (p1 : Int32) (p0 : Int32)
    (ha : K a = 12)
    (w8 : 0 ≤ ((G.1 (F a 8) 6).toInt) ∧ ((G.1 (F a 8) 6).toInt) ≤ 1080)
    (c1 : ¬ (p1.toInt = 0))
    (c6 : ¬ (p1.toInt = (1 : Int))) :
    ((p1.toInt < 0 ∨ 1 < p1.toInt) ∧ (-1 : Int) = -1) ∨ ((0 ≤ p1.toInt ∧ p1.toInt ≤ 1) ∧ GrC (aI (G.2.1 (F (F a 8) 0))) ((G.1 (F a 8) 6).toInt) p0.toInt p1.toInt (-1 : Int)) := by
  exact Or.inl ⟨by omega, rfl⟩
theorem v_X10_count_68_1 {F : Nat → Nat → Nat} (a : Nat) (G : XG)
    (ron : RO (vw (G.2.1 (F (F a 3) 0))) (aI (G.2.1 (F (F a 3) 1)))) :
    RO (vw (G.2.1 (F (F a 3) 0))) (aI (G.2.1 (F (F a 3) 1))) := by exact ron
abbrev rm_X10_all : Room := { frames := 6, cells := 0, slots := 0, locals := 149 }
set_option maxHeartbeats 4000000 in
set_option maxRecDepth 100000 in
theorem c_X10_all (l : Launch) (E : XE) (K : Nat → Nat) (F : Nat → Nat → Nat) (G : XG) (a : Nat) (p0 : Int32) (ha : K a = 12) (sb : 0 ≤ ((G.1 (F a 2) 2).toInt) ∧ ((G.1 (F a 2) 2).toInt) ≤ 12) (ro0 : RO (vw (G.2.1 (F (F a 6) 0))) (aI (G.2.1 (F (F a 6) 1)))) (ron : RO (vw (G.2.1 (F (F a 3) 0))) (aI (G.2.1 (F (F a 3) 1)))) (bko : BKr K G (G.2.2.1 (F (F a 2) 1))) : Met l yX10_all (xw yX10_all cX10_all 3 (some .int)) rm_X10_all (va_Pc [.ref a, .int p0] (XP E K F G)) (XQ E (fun v (u : XG) => ∃ r : Int32, v = .int r ∧ XFr [(F a 11, 3), (F a 9, 6)] [F (F a 11) 0, F (F a 11) 1, F (F a 11) 2, F (F a 9) 0, F (F a 9) 1, F (F a 9) 2, F (F a 9) 3, F (F a 9) 4, F (F a 9) 5] [] G u ∧ (((p0.toInt < 0 ∨ 2 < p0.toInt) ∧ r.toInt = -2147483648) ∨ ((0 ≤ p0.toInt ∧ p0.toInt ≤ 2) ∧ r.toInt = alS p0.toInt (fqL (gaL G (G.2.2.1 (F (F a 2) 1)) (vw (G.2.1 (F (F a 6) 0))) (vw (G.2.1 (F (F a 3) 0))) 0 (((G.1 (F a 2) 2).toInt)).toNat))))) (fun u H => TW E K F u H)) 0 0 (xA E) := by
  refine x_enter (by decide) (Nat.le_of_ble_eq_true rfl) ?_
  intro p e s m args below meth c Q S hr hlk hnm hQ hP ls hl
  obtain ⟨hz, hK, hT⟩ := hP
  obtain ⟨hx, hb, -, -, -⟩ := id S
  obtain ⟨H, hT, hS, hgo⟩ : ∃ H : Heap, TW E K F G H ∧ va_S (xA E) s.heap H [] ∧ H = s.heap := ⟨_, hT, va_S.rf, rfl⟩
  rw [← hgo]
  have hl : lv_has ls 3 [(0, .ref a), (1, .int p0)] := hl
  obtain ⟨hk9999, hj9999⟩ := fkX10_11 hT ha
  obtain ⟨hk9999a, hj9999a⟩ := fkX10_9 hT ha
  obtain ⟨hk9999b, hj9999b⟩ := fkX1_0 hT hk9999
  obtain ⟨hk9999c, hj9999c⟩ := fkX1_1 hT hk9999
  obtain ⟨hk9999d, hj9999d⟩ := fkX1_2 hT hk9999
  obtain ⟨hk9999e, hj9999e⟩ := fkX4_0 hT hk9999a
  have hj9999f : F (F (F a 9) 0) 99 = 10 * 1 + 0 := by rw [hj9999e, hj9999a]
  obtain ⟨hk9999f, hj9999g⟩ := fkX4_1 hT hk9999a
  have hj9999h : F (F (F a 9) 1) 99 = 10 * 1 + 1 := by rw [hj9999g, hj9999a]
  obtain ⟨hk9999g, hj9999i⟩ := fkX4_2 hT hk9999a
  have hj9999j : F (F (F a 9) 2) 99 = 10 * 1 + 2 := by rw [hj9999i, hj9999a]
  obtain ⟨hk9999h, hj9999k⟩ := fkX4_3 hT hk9999a
  have hj9999l : F (F (F a 9) 3) 99 = 10 * 1 + 3 := by rw [hj9999k, hj9999a]
  obtain ⟨hk9999i, hj9999m⟩ := fkX4_4 hT hk9999a
  have hj9999n : F (F (F a 9) 4) 99 = 10 * 1 + 4 := by rw [hj9999m, hj9999a]
  obtain ⟨hk9999j, hj9999o⟩ := fkX4_5 hT hk9999a
  have hj9999p : F (F (F a 9) 5) 99 = 10 * 1 + 5 := by rw [hj9999o, hj9999a]
  obtain ⟨hk9999k, hj9999q⟩ := fkX10_2 hT ha
  obtain ⟨hk9999l, hj9999r⟩ := fkX0_1 hT hk9999k
  obtain ⟨hk9999m, hj9999s⟩ := fkX10_6 hT ha
  obtain ⟨hk9999n, hj9999t⟩ := fkX6_0 hT hk9999m
  have hj9999u : F (F (F a 6) 0) 99 = 3 := by rw [hj9999t, hj9999s]
  obtain ⟨hk9999o, hj9999v⟩ := fkX6_1 hT hk9999m
  have hj9999w : F (F (F a 6) 1) 99 = 3 := by rw [hj9999v, hj9999s]
  obtain ⟨hk9999p, hj9999y⟩ := fkX10_3 hT ha
  obtain ⟨hk9999q, hj9999z25⟩ := fkX6_0 hT hk9999p
  have hj9999z26 : F (F (F a 3) 0) 99 = 0 := by rw [hj9999z25, hj9999y]
  obtain ⟨hk9999r, hj9999z27⟩ := fkX6_1 hT hk9999p
  have hj9999z28 : F (F (F a 3) 1) 99 = 0 := by rw [hj9999z27, hj9999y]
  refine lv_iload_n hx hb dX10_all_0 rfl (lv_at hl 1 rfl) ?_
  refine xi_zlt (tgt := 9) hx hb (rfl : Int32.toInt p0 = p0.toInt) dX10_all_1 (by decide) (fun c1 => ?_) (fun c1 => ?_)
  · refine lv_ldcw (v := (-2147483648)) hx hb S.2.2.2.1 (S.2.2.2.2 _ (List.mem_cons_of_mem _ kc_X10_274)) dX10_all_9 ?_
    exact x_ri hx hb hr hlk hQ (Nat.le_of_ble_eq_true rfl) (Nat.le_of_ble_eq_true rfl) hS dX10_all_12 G ⟨_, rfl, XFr.rf, (by rw [((by decide) : Int32.toInt (-2147483648) = (-2147483648 : Int))] <;> exact (v_X10_all_12_1 (K := K) (F := F) a G p0 ha sb c1))⟩ hT
  · refine lv_iload_n hx hb dX10_all_4 rfl (lv_at hl 1 rfl) ?_
    refine lv_iconst (v := 2) hx hb dX10_all_5 (by decide) ?_
    refine xi_cle (tgt := 13) hx hb (rfl : Int32.toInt p0 = p0.toInt) ((by decide) : Int32.toInt 2 = (2 : Int)) dX10_all_6 (by decide) (fun c6 => ?_) (fun c6 => ?_)
    · refine lv_aload_n hx hb dX10_all_13 rfl (lv_at hl 0 rfl) ?_
      refine lv_aload_n hx hb dX10_all_14 rfl (lv_at hl 0 rfl) ?_
      refine gX10_9 S hK hT ha kf_X10_61 dX10_all_15 (fun _ _ => ?_)
      refine lv_aload_n hx hb dX10_all_18 rfl (lv_at hl 0 rfl) ?_
      refine gX10_6 S hK hT ha kf_X10_47 dX10_all_19 (fun _ _ => ?_)
      refine lv_aload_n hx hb dX10_all_22 rfl (lv_at hl 0 rfl) ?_
      refine gX10_3 S hK hT ha kf_X10_37 dX10_all_23 (fun _ _ => ?_)
      refine lv_iconst (v := 0) hx hb dX10_all_26 (by decide) ?_
      refine x_cv0 (x_runV (b := a) (As := [.ref (F a 9), .ref (F a 6), .ref (F a 3), .int 0]) (rest := []) S (c_X10_gather l E K F G a (F a 9) (F a 6) (F a 3) 0 ha hk9999a hk9999m hk9999p (sb) (v_X10_all_27_2 (F := F) a G ro0) (v_X10_all_27_3 (F := F) a G ron) (v_X10_all_27_4 (K := K) (F := F) G a bko) (v_X10_all_27_5 (K := K) (F := F) a G p0 ha hk9999 hj9999 hk9999a hj9999a hk9999b hj9999b hk9999c hj9999c hk9999d hj9999d hk9999e hj9999f hk9999f hj9999h hk9999g hj9999j hk9999h hj9999l hk9999i hj9999n hk9999j hj9999p hk9999k hj9999q hk9999l hj9999r hk9999m hj9999s hk9999n hj9999u hk9999o hj9999w hk9999p hj9999y hk9999q hj9999z26 hk9999r hj9999z28 ro0 ron bko sb c1 c6) (v_X10_all_27_6 (K := K) (F := F) a G p0 ha hk9999 hj9999 hk9999a hj9999a hk9999b hj9999b hk9999c hj9999c hk9999d hj9999d hk9999e hj9999f hk9999f hj9999h hk9999g hj9999j hk9999h hj9999l hk9999i hj9999n hk9999j hj9999p hk9999k hj9999q hk9999l hj9999r hk9999m hj9999s hk9999n hj9999u hk9999o hj9999w hk9999p hj9999y hk9999q hj9999z26 hk9999r hj9999z28 ro0 ron bko sb c1 c6)) mv_X10_gather km_X10_240 rfl rfl ⟨Nat.le_of_ble_eq_true rfl, Nat.le_of_ble_eq_true rfl⟩ (rc_12 hK hT ha) hK (fun _ => XP.blind) (fun U hU hW => XP.at hK hz hS hT hU hW) rfl hl.1 (Nat.le_of_ble_eq_true rfl) dX10_all_27 ⟨Nat.le_of_ble_eq_true rfl, Nat.le_of_ble_eq_true rfl⟩) hS ?_
      rintro G27 H locs ⟨hF27, t27, oq27⟩ hT hS
      have t27 : 0 ≤ ((G27.1 (F a 9) 6).toInt) ∧ ((G27.1 (F a 9) 6).toInt) ≤ 1080 := t27
      refine lv_iload_n hx hb dX10_all_30 rfl (lv_at hl 1 rfl) ?_
      refine xi_zne (tgt := 42) hx hb (rfl : Int32.toInt p0 = p0.toInt) dX10_all_31 (by decide) (fun c31 => ?_) (fun c31 => ?_)
      · refine lv_aload_n hx hb dX10_all_42 rfl (lv_at hl 0 rfl) ?_
        refine gX10_9 S hK hT ha kf_X10_61 dX10_all_43 (fun _ _ => ?_)
        refine x_clp (x_runV (b := (F a 9)) (As := []) (rest := []) S (c_X4_firstFailing l E K F G27 H (F a 9) hk9999a (t27)) mv_X4_firstFailing km_X10_244 rfl rfl ⟨Nat.le_of_ble_eq_true rfl, Nat.le_of_ble_eq_true rfl⟩ (rc_6 hK hT hk9999a) hK (fun _ => XPh.blind) (fun U hU hW => XPh.at hK hz hS hT hU hW) rfl hl.1 (Nat.le_of_ble_eq_true rfl) dX10_all_46 ⟨Nat.le_of_ble_eq_true rfl, Nat.le_of_ble_eq_true rfl⟩) hS ?_
        rintro _ _ locs ⟨x46, rfl, t46, oq46⟩ hS
        have t46 : x46.toInt = -1 ∨ (0 ≤ x46.toInt ∧ x46.toInt < ((G27.1 (F a 9) 6).toInt) ∧ (aI (G27.2.1 (F (F a 9) 5)) (x46.toInt)) = 1) := t46
        refine lv_istore_n (lv' := [(2, .int x46), (0, .ref a), (1, .int p0)]) hx hb dX10_all_49 rfl hl (by decide) rfl (fun ls hl => ?_)
        refine lv_iload_n hx hb dX10_all_50 rfl (lv_at hl 0 rfl) ?_
        refine lv_iconst (v := (-1)) hx hb dX10_all_51 (by decide) ?_
        refine xi_cne (tgt := 57) hx hb (rfl : Int32.toInt x46 = x46.toInt) ((by decide) : Int32.toInt (-1) = (-1 : Int)) dX10_all_52 (by decide) (fun c52 => ?_) (fun c52 => ?_)
        · refine lv_iload_n hx hb dX10_all_57 rfl (lv_at hl 2 rfl) ?_
          refine lv_iconst (v := 1) hx hb dX10_all_58 (by decide) ?_
          refine xi_cne (tgt := 73) hx hb (rfl : Int32.toInt p0 = p0.toInt) ((by decide) : Int32.toInt 1 = (1 : Int)) dX10_all_59 (by decide) (fun c59 => ?_) (fun c59 => ?_)
          · refine lv_aload_n hx hb dX10_all_73 rfl (lv_at hl 1 rfl) ?_
            refine gX10_9 S hK hT ha kf_X10_61 dX10_all_74 (fun _ _ => ?_)
            refine lv_iload_n hx hb dX10_all_77 rfl (lv_at hl 0 rfl) ?_
            refine x_clp (x_runV (b := (F a 9)) (As := [.int x46]) (rest := []) S (c_X4_subject l E K F G27 H (F a 9) x46 hk9999a) mv_X4_subject km_X10_147 rfl rfl ⟨Nat.le_of_ble_eq_true rfl, Nat.le_of_ble_eq_true rfl⟩ (rc_6 hK hT hk9999a) hK (fun _ => XPh.blind) (fun U hU hW => XPh.at hK hz hS hT hU hW) rfl hl.1 (Nat.le_of_ble_eq_true rfl) dX10_all_78 ⟨Nat.le_of_ble_eq_true rfl, Nat.le_of_ble_eq_true rfl⟩) hS ?_
            rintro _ _ locs ⟨x78, rfl, t78⟩ hS
            have t78 : ((0 ≤ x46.toInt ∧ x46.toInt < ((G27.1 (F a 9) 6).toInt) ∧ x46.toInt < 1080) ∧ x78.toInt = (aI (G27.2.1 (F (F a 9) 1)) (x46.toInt))) ∨ (¬ (0 ≤ x46.toInt ∧ x46.toInt < ((G27.1 (F a 9) 6).toInt) ∧ x46.toInt < 1080) ∧ x78.toInt = -1) := t78
            exact x_ri hx hb hr hlk hQ (Nat.le_of_ble_eq_true rfl) (Nat.le_of_ble_eq_true rfl) hS dX10_all_81 G27 ⟨_, rfl, (XFr.call XFr.rf hF27 (xm1 0 rfl (xm1 1 rfl xm0)) (xm1 0 rfl (xm1 1 rfl (xm1 2 rfl (xm1 3 rfl (xm1 4 rfl (xm1 5 rfl (xm1 6 rfl (xm1 7 rfl (xm1 8 rfl xm0))))))))) xm0), (v_X10_all_81_7 (K := K) (F := F) a G G27 x46 p0 x78 ha oq27 oq46 sb c1 c6 t27 c31 t46 c52 c59 t78)⟩ hT
          · refine lv_aload_n hx hb dX10_all_62 rfl (lv_at hl 1 rfl) ?_
            refine gX10_9 S hK hT ha kf_X10_61 dX10_all_63 (fun _ _ => ?_)
            refine lv_iload_n hx hb dX10_all_66 rfl (lv_at hl 0 rfl) ?_
            refine x_clp (x_runV (b := (F a 9)) (As := [.int x46]) (rest := []) S (c_X4_number l E K F G27 H (F a 9) x46 hk9999a) mv_X4_number km_X10_301 rfl rfl ⟨Nat.le_of_ble_eq_true rfl, Nat.le_of_ble_eq_true rfl⟩ (rc_6 hK hT hk9999a) hK (fun _ => XPh.blind) (fun U hU hW => XPh.at hK hz hS hT hU hW) rfl hl.1 (Nat.le_of_ble_eq_true rfl) dX10_all_67 ⟨Nat.le_of_ble_eq_true rfl, Nat.le_of_ble_eq_true rfl⟩) hS ?_
            rintro _ _ locs ⟨x67, rfl, t67⟩ hS
            have t67 : ((0 ≤ x46.toInt ∧ x46.toInt < ((G27.1 (F a 9) 6).toInt) ∧ x46.toInt < 1080) ∧ x67.toInt = (aI (G27.2.1 (F (F a 9) 0)) (x46.toInt))) ∨ (¬ (0 ≤ x46.toInt ∧ x46.toInt < ((G27.1 (F a 9) 6).toInt) ∧ x46.toInt < 1080) ∧ x67.toInt = -1) := t67
            refine lv_goto (tgt := 81) hx hb dX10_all_70 (by decide) ?_
            exact x_ri hx hb hr hlk hQ (Nat.le_of_ble_eq_true rfl) (Nat.le_of_ble_eq_true rfl) hS dX10_all_81 G27 ⟨_, rfl, (XFr.call XFr.rf hF27 (xm1 0 rfl (xm1 1 rfl xm0)) (xm1 0 rfl (xm1 1 rfl (xm1 2 rfl (xm1 3 rfl (xm1 4 rfl (xm1 5 rfl (xm1 6 rfl (xm1 7 rfl (xm1 8 rfl xm0))))))))) xm0), (v_X10_all_81_8 (K := K) (F := F) a G G27 x46 p0 x67 ha oq27 oq46 sb c1 c6 t27 c31 t46 c52 c59 t67)⟩ hT
        · refine lv_iconst (v := (-1)) hx hb dX10_all_55 (by decide) ?_
          exact x_ri hx hb hr hlk hQ (Nat.le_of_ble_eq_true rfl) (Nat.le_of_ble_eq_true rfl) hS dX10_all_56 G27 ⟨_, rfl, (XFr.call XFr.rf hF27 (xm1 0 rfl (xm1 1 rfl xm0)) (xm1 0 rfl (xm1 1 rfl (xm1 2 rfl (xm1 3 rfl (xm1 4 rfl (xm1 5 rfl (xm1 6 rfl (xm1 7 rfl (xm1 8 rfl xm0))))))))) xm0), (by rw [((by decide) : Int32.toInt (-1) = (-1 : Int))] <;> exact (v_X10_all_56_9 (K := K) (F := F) a G G27 x46 p0 ha oq27 oq46 sb c1 c6 t27 c31 t46 c52))⟩ hT
      · refine lv_aload_n hx hb dX10_all_34 rfl (lv_at hl 0 rfl) ?_
        refine gX10_9 S hK hT ha kf_X10_61 dX10_all_35 (fun _ _ => ?_)
        refine x_clp (x_runV (b := (F a 9)) (As := []) (rest := []) S (c_X4_failing l E K F G27 H (F a 9) hk9999a (t27)) mv_X4_failing km_X10_335 rfl rfl ⟨Nat.le_of_ble_eq_true rfl, Nat.le_of_ble_eq_true rfl⟩ (rc_6 hK hT hk9999a) hK (fun _ => XPh.blind) (fun U hU hW => XPh.at hK hz hS hT hU hW) rfl hl.1 (Nat.le_of_ble_eq_true rfl) dX10_all_38 ⟨Nat.le_of_ble_eq_true rfl, Nat.le_of_ble_eq_true rfl⟩) hS ?_
        rintro _ _ locs ⟨x38, rfl, t38⟩ hS
        have t38 : x38.toInt = (hv (aI (G27.2.1 (F (F a 9) 5))) 0 1 ((G27.1 (F a 9) 6).toInt)) := t38
        exact x_ri hx hb hr hlk hQ (Nat.le_of_ble_eq_true rfl) (Nat.le_of_ble_eq_true rfl) hS dX10_all_41 G27 ⟨_, rfl, (XFr.call XFr.rf hF27 (xm1 0 rfl (xm1 1 rfl xm0)) (xm1 0 rfl (xm1 1 rfl (xm1 2 rfl (xm1 3 rfl (xm1 4 rfl (xm1 5 rfl (xm1 6 rfl (xm1 7 rfl (xm1 8 rfl xm0))))))))) xm0), (by rw [(t38 : Int32.toInt x38 = (hv (aI (G27.2.1 (F (F a 9) 5))) 0 1 ((G27.1 (F a 9) 6).toInt)))] <;> exact (v_X10_all_41_10 (K := K) (F := F) a G G27 p0 ha oq27 sb c1 c6 t27 c31))⟩ hT
    · refine lv_ldcw (v := (-2147483648)) hx hb S.2.2.2.1 (S.2.2.2.2 _ (List.mem_cons_of_mem _ kc_X10_274)) dX10_all_9 ?_
      exact x_ri hx hb hr hlk hQ (Nat.le_of_ble_eq_true rfl) (Nat.le_of_ble_eq_true rfl) hS dX10_all_12 G ⟨_, rfl, XFr.rf, (by rw [((by decide) : Int32.toInt (-2147483648) = (-2147483648 : Int))] <;> exact (v_X10_all_12_11 (K := K) (F := F) a G p0 ha sb c1 c6))⟩ hT

theorem z_X6_newNulls_1 (a0 : Int) (h0 : 0 ≤ a0 ∧ a0 ≤ 270) : ¬ (1000 - a0 < ((0 : Nat) : Int)) := by omega
theorem z_X6_newNulls_2 (a0 : Int) (a1 : Int) (a2 : Int) (a3 : Int) (h0 : 0 ≤ a1 ∧ a1 ≤ 270) (h1 : a0 = a2) (h2 : (270 : Int) ≤ a1) (h3 : a1 = 270 → a2 = a3) : a0 = a3 := by omega
theorem z_X6_newNulls_3 (a0 : Int) (h0 : 0 ≤ a0 ∧ a0 ≤ 270) : 0 ≤ a0 := by omega
theorem z_X6_newNulls_4 (a0 : Int) (h0 : 0 ≤ a0 ∧ a0 ≤ 270) (h1 : ¬ ((270 : Int) ≤ a0)) : 0 ≤ a0 ∧ a0 < 270 := by omega
theorem z_X6_newNulls_6 (a0 : Int) (h0 : 0 ≤ a0 ∧ a0 ≤ 270) (h1 : ¬ ((270 : Int) ≤ a0)) : 0 ≤ a0 ∧ a0 < ((270 : Nat) : Int) := by omega
theorem z_X6_newNulls_7 (a0 : Int) (a1 : Int) (h0 : 0 ≤ a0 ∧ a0 ≤ 270) (h1 : a1 = (a0 + 1) ∨ (a0 + 1) < -2147483648 ∨ 2147483648 ≤ (a0 + 1)) : a1 = (a0 + 1) := by omega
theorem z_X6_newNulls_8 (a0 : Int) (h0 : 0 ≤ a0 ∧ a0 ≤ 270) (h1 : ¬ ((270 : Int) ≤ a0)) : 0 ≤ (a0 + 1) ∧ (a0 + 1) ≤ 270 := by omega
theorem z_X6_newNulls_9 (a0 : Int) (a1 : Int) (a2 : Int) (a3 : Int) (a4 : Int) (a5 : Int) (a6 : Int) (h0 : a0 = a3) (h1 : a2 = a3 + a4) (h2 : ¬ (a5 = -1000 ∧ a6 ≠ -1000) → a4 = 0) (h3 : a5 = a1) (h4 : a1 ≠ (-1000 : Int)) : a0 = a2 := by omega
theorem z_X6_newNulls_10 (a0 : Int) (a1 : Int) (h0 : 0 ≤ a0 ∧ a0 ≤ a1) : 0 ≤ a0 ∧ a0 ≤ (a1 + 1) := by omega
theorem z_X6_newNulls_11 (a0 : Int) (a1 : Nat) (h0 : 1000 - a0 < ((a1 + 1 : Nat) : Int)) : 1000 - (a0 + 1) < ((a1 : Nat) : Int) := by omega
theorem z_X6_newNulls_15 (a0 : Int) (a1 : Int) (a2 : Int) (a3 : Int) (a4 : Int) (a5 : Int) (a6 : Int) (h0 : a0 = a3) (h1 : a2 = a3 + a4) (h2 : ¬ (a5 = -1000 ∧ a6 ≠ -1000) → a4 = 0) (h3 : a6 = a1) (h4 : a1 = (-1000 : Int)) : a0 = a2 := by omega
theorem z_X6_newNulls_18 (a0 : Int) (a1 : Int) (a2 : Int) (h0 : 0 ≤ a0 ∧ a0 ≤ a1) (h1 : ¬ ((270 : Int) ≤ a1)) (h2 : a2 = (a0 + 1) ∨ (a0 + 1) < -2147483648 ∨ 2147483648 ≤ (a0 + 1)) : a2 = (a0 + 1) := by omega
theorem z_X6_newNulls_21 (a0 : Int) (a1 : Int) (a2 : Int) (a3 : Int) (a4 : Int) (a5 : Int) (a6 : Int) (a7 : Int) (h0 : a0 = a4) (h1 : a3 = a4 + a5) (h2 : a6 = -1000 ∧ a7 ≠ -1000 → a5 = 1) (h3 : a6 = a1) (h4 : a7 = a2) (h5 : ¬ (a1 ≠ (-1000 : Int))) (h6 : ¬ (a2 = (-1000 : Int))) : (a0 + 1) = a3 := by omega
theorem z_X6_newNulls_22 (a0 : Int) (a1 : Int) (h0 : 0 ≤ a0 ∧ a0 ≤ a1) : 0 ≤ (a0 + 1) ∧ (a0 + 1) ≤ (a1 + 1) := by omega
theorem z_X6_newNulls_24 (a0 : Int) (h0 : a0 = 0) : (0 : Int) = a0 := by omega
abbrev rm_X6_newNulls : Room := { frames := 0, cells := 0, slots := 0, locals := 0 }
set_option maxHeartbeats 4000000 in
set_option maxRecDepth 100000 in
theorem c_X6_newNulls (l : Launch) (E : XE) (K : Nat → Nat) (F : Nat → Nat → Nat) (G : XG) (h0 : Heap) (a : Nat) (p0 : Nat) (ha : K a = 8) (hp0 : K p0 = 8) : Met l yX6_newNulls (xw yX6_newNulls cX6_newNulls 4 (some .int)) rm_X6_newNulls (va_Pc [.ref a, .ref p0] (XPh E K F G h0)) (XQ E (fun v (u : Unit) => ∃ r : Int32, v = .int r ∧ (r.toInt = (bsI (nn1 (vw (G.2.1 (F a 0))) (vw (G.2.1 (F p0 0)))) 270))) (fun _ H => H = h0)) 0 0 (xA E) := by
  refine x_enter (by decide) (Nat.le_of_ble_eq_true rfl) ?_
  intro p e s m args below meth c Q S hr hlk hnm hQ hP ls hl
  obtain ⟨⟨hz, hK, hT⟩, hh⟩ := hP
  obtain ⟨hx, hb, -, -, -⟩ := id S
  have hS : va_S (xA E) s.heap s.heap [] := va_S.rf
  have hl : lv_has ls 4 [(0, .ref a), (1, .ref p0)] := hl
  obtain ⟨hk9999, hj9999⟩ := fkX6_0 hT hp0
  obtain ⟨hk9999a, hj9999a⟩ := fkX6_0 hT ha
  refine lv_iconst (v := 0) hx hb dX6_newNulls_0 (by decide) ?_
  refine lv_istore_n (lv' := [(2, .int 0), (0, .ref a), (1, .ref p0)]) hx hb dX6_newNulls_1 rfl hl (by decide) rfl (fun ls hl => ?_)
  have z2 : (bsI (nn1 (vw (G.2.1 (F a 0))) (vw (G.2.1 (F p0 0)))) 0) = 0 := bsI_0 _
  refine lv_iconst (v := 0) hx hb dX6_newNulls_2 (by decide) ?_
  refine lv_istore_n (lv' := [(3, .int 0), (2, .int 0), (0, .ref a), (1, .ref p0)]) hx hb dX6_newNulls_3 rfl hl (by decide) rfl (fun ls hl => ?_)
  have L4 : ∀ (N4 : Nat) (l2_4 : Int32) (l3_4 : Int32) (locs : List Loc) (ls : Array Slot), 0 ≤ l3_4.toInt ∧ l3_4.toInt ≤ 270 → l2_4.toInt = (bsI (nn1 (vw (G.2.1 (F a 0))) (vw (G.2.1 (F p0 0)))) (l3_4.toInt)) → 0 ≤ l2_4.toInt ∧ l2_4.toInt ≤ l3_4.toInt → 1000 - l3_4.toInt < ((N4 : Nat) : Int) → TW E K F G s.heap → va_S (xA E) s.heap s.heap locs → lv_has ls 4 [(0, .ref a), (1, .ref p0), (2, .int l2_4), (3, .int l3_4)] → W p l e rm_X6_newNulls s m args below meth c s.heap locs 0 0 Q (F0 m 4 ls []) := by
    intro N4
    induction N4 with
    | zero =>
      intro l2_4 l3_4 locs ls I4_0 I4_1 I4_2 hm4
      exact absurd hm4 (z_X6_newNulls_1 l3_4.toInt I4_0)
    | succ N4 ih4 =>
      intro l2_4 l3_4 locs ls I4_0 I4_1 I4_2 hm4 hT hS hl
      refine lv_iload_n hx hb dX6_newNulls_4 rfl (lv_at hl 3 rfl) ?_
      refine lv_sipush (v := 270) hx hb dX6_newNulls_5 (by decide) ?_
      refine xi_cge (tgt := 44) hx hb (rfl : Int32.toInt l3_4 = l3_4.toInt) ((by decide) : Int32.toInt 270 = (270 : Int)) dX6_newNulls_8 (by decide) (fun c8 => ?_) (fun c8 => ?_)
      · have z44 : l3_4.toInt = 270 → (bsI (nn1 (vw (G.2.1 (F a 0))) (vw (G.2.1 (F p0 0)))) (l3_4.toInt)) = (bsI (nn1 (vw (G.2.1 (F a 0))) (vw (G.2.1 (F p0 0)))) 270) := fun h9 => by rw [h9]
        refine lv_iload_n hx hb dX6_newNulls_44 rfl (lv_at hl 2 rfl) ?_
        exact x_ri hx hb hr hlk hQ (Nat.le_of_ble_eq_true rfl) (Nat.le_of_ble_eq_true rfl) hS dX6_newNulls_45 () ⟨_, rfl, (z_X6_newNulls_2 l2_4.toInt l3_4.toInt (bsI (nn1 (vw (G.2.1 (F a 0))) (vw (G.2.1 (F p0 0)))) (l3_4.toInt)) (bsI (nn1 (vw (G.2.1 (F a 0))) (vw (G.2.1 (F p0 0)))) 270) I4_0 I4_1 c8 z44)⟩ hh
      · have z11 : (bsI (nn1 (vw (G.2.1 (F a 0))) (vw (G.2.1 (F p0 0)))) (l3_4.toInt + 1)) = (bsI (nn1 (vw (G.2.1 (F a 0))) (vw (G.2.1 (F p0 0)))) (l3_4.toInt)) + (nn1 (vw (G.2.1 (F a 0))) (vw (G.2.1 (F p0 0))) (l3_4.toInt)) := bsI_s _ (z_X6_newNulls_3 l3_4.toInt I4_0)
        have z11a : ((vw (G.2.1 (F a 0)) (l3_4.toInt)) = -1000 ∧ (vw (G.2.1 (F p0 0)) (l3_4.toInt)) ≠ -1000 → (nn1 (vw (G.2.1 (F a 0))) (vw (G.2.1 (F p0 0))) (l3_4.toInt)) = 1) ∧ (¬ ((vw (G.2.1 (F a 0)) (l3_4.toInt)) = -1000 ∧ (vw (G.2.1 (F p0 0)) (l3_4.toInt)) ≠ -1000) → (nn1 (vw (G.2.1 (F a 0))) (vw (G.2.1 (F p0 0))) (l3_4.toInt)) = 0) := nn1_st _ _ _
        have z11b : (vw (G.2.1 (F a 0)) (l3_4.toInt)) = (aI (G.2.1 (F a 0)) (l3_4.toInt)) := vw_in (z_X6_newNulls_4 l3_4.toInt I4_0 c8)
        have z11c : (vw (G.2.1 (F p0 0)) (l3_4.toInt)) = (aI (G.2.1 (F p0 0)) (l3_4.toInt)) := vw_in (z_X6_newNulls_4 l3_4.toInt I4_0 c8)
        refine lv_aload_n hx hb dX6_newNulls_11 rfl (lv_at hl 0 rfl) ?_
        refine gX6_0 S hK hT ha kf_X6_9 dX6_newNulls_12 (fun _ _ => ?_)
        refine lv_iload_n hx hb dX6_newNulls_15 rfl (lv_at hl 3 rfl) ?_
        refine al_0 S hK hT hk9999a ar_20 (by decide) (z_X6_newNulls_6 l3_4.toInt I4_0 c8) dX6_newNulls_16 (fun x16 hv16 o16 => ?_)
        have hv16 : x16.toInt = (aI (G.2.1 (F a 0)) (l3_4.toInt)) := hv16.trans (by rw [(rfl : Int32.toInt l3_4 = l3_4.toInt)])
        refine lv_sipush (v := (-1000)) hx hb dX6_newNulls_17 (by decide) ?_
        refine xi_cne (tgt := 38) hx hb (hv16 : Int32.toInt x16 = (aI (G.2.1 (F a 0)) (l3_4.toInt))) ((by decide) : Int32.toInt (-1000) = (-1000 : Int)) dX6_newNulls_20 (by decide) (fun c20 => ?_) (fun c20 => ?_)
        · refine xi_iinc (n := 1) (lv' := fun z9 => [(3, .int z9), (0, .ref a), (1, .ref p0), (2, .int l2_4)]) (k := 3) hx hb (rfl : Int32.toInt l3_4 = l3_4.toInt) (by decide) dX6_newNulls_38 hl rfl (by decide) (fun _ => rfl) (fun x38 ls t38 hl => ?_)
          have e38 : x38.toInt = (l3_4.toInt + 1) := (z_X6_newNulls_7 l3_4.toInt x38.toInt I4_0 t38)
          have hl : lv_has ls 4 [(3, .int x38), (0, .ref a), (1, .ref p0), (2, .int l2_4)] := hl
          refine lv_goto (tgt := 4) hx hb dX6_newNulls_41 (by decide) ?_
          exact ih4 l2_4 x38 _ _ (by rw [(e38 : Int32.toInt x38 = (l3_4.toInt + 1))] <;> exact (z_X6_newNulls_8 l3_4.toInt I4_0 c8)) (by rw [(e38 : Int32.toInt x38 = (l3_4.toInt + 1))] <;> exact (z_X6_newNulls_9 l2_4.toInt (aI (G.2.1 (F a 0)) (l3_4.toInt)) (bsI (nn1 (vw (G.2.1 (F a 0))) (vw (G.2.1 (F p0 0)))) (l3_4.toInt + 1)) (bsI (nn1 (vw (G.2.1 (F a 0))) (vw (G.2.1 (F p0 0)))) (l3_4.toInt)) (nn1 (vw (G.2.1 (F a 0))) (vw (G.2.1 (F p0 0))) (l3_4.toInt)) (vw (G.2.1 (F a 0)) (l3_4.toInt)) (vw (G.2.1 (F p0 0)) (l3_4.toInt)) I4_1 z11 (z11a).2 z11b c20)) (by rw [(e38 : Int32.toInt x38 = (l3_4.toInt + 1))] <;> exact (z_X6_newNulls_10 l2_4.toInt l3_4.toInt I4_2)) (by rw [(e38 : Int32.toInt x38 = (l3_4.toInt + 1))] <;> exact (z_X6_newNulls_11 l3_4.toInt N4 hm4)) hT hS (lv_sub hl [1, 2, 3, 0] rfl)
        · refine lv_aload_n hx hb dX6_newNulls_23 rfl (lv_at hl 1 rfl) ?_
          refine gX6_0 S hK hT hp0 kf_X6_9 dX6_newNulls_24 (fun _ _ => ?_)
          refine lv_iload_n hx hb dX6_newNulls_27 rfl (lv_at hl 3 rfl) ?_
          refine al_0 S hK hT hk9999 ar_20 (by decide) (z_X6_newNulls_6 l3_4.toInt I4_0 c8) dX6_newNulls_28 (fun x28 hv28 o28 => ?_)
          have hv28 : x28.toInt = (aI (G.2.1 (F p0 0)) (l3_4.toInt)) := hv28.trans (by rw [(rfl : Int32.toInt l3_4 = l3_4.toInt)])
          refine lv_sipush (v := (-1000)) hx hb dX6_newNulls_29 (by decide) ?_
          refine xi_ceq (tgt := 38) hx hb (hv28 : Int32.toInt x28 = (aI (G.2.1 (F p0 0)) (l3_4.toInt))) ((by decide) : Int32.toInt (-1000) = (-1000 : Int)) dX6_newNulls_32 (by decide) (fun c32 => ?_) (fun c32 => ?_)
          · refine xi_iinc (n := 1) (lv' := fun z9 => [(3, .int z9), (0, .ref a), (1, .ref p0), (2, .int l2_4)]) (k := 3) hx hb (rfl : Int32.toInt l3_4 = l3_4.toInt) (by decide) dX6_newNulls_38 hl rfl (by decide) (fun _ => rfl) (fun x38 ls t38 hl => ?_)
            have e38 : x38.toInt = (l3_4.toInt + 1) := (z_X6_newNulls_7 l3_4.toInt x38.toInt I4_0 t38)
            have hl : lv_has ls 4 [(3, .int x38), (0, .ref a), (1, .ref p0), (2, .int l2_4)] := hl
            refine lv_goto (tgt := 4) hx hb dX6_newNulls_41 (by decide) ?_
            exact ih4 l2_4 x38 _ _ (by rw [(e38 : Int32.toInt x38 = (l3_4.toInt + 1))] <;> exact (z_X6_newNulls_8 l3_4.toInt I4_0 c8)) (by rw [(e38 : Int32.toInt x38 = (l3_4.toInt + 1))] <;> exact (z_X6_newNulls_15 l2_4.toInt (aI (G.2.1 (F p0 0)) (l3_4.toInt)) (bsI (nn1 (vw (G.2.1 (F a 0))) (vw (G.2.1 (F p0 0)))) (l3_4.toInt + 1)) (bsI (nn1 (vw (G.2.1 (F a 0))) (vw (G.2.1 (F p0 0)))) (l3_4.toInt)) (nn1 (vw (G.2.1 (F a 0))) (vw (G.2.1 (F p0 0))) (l3_4.toInt)) (vw (G.2.1 (F a 0)) (l3_4.toInt)) (vw (G.2.1 (F p0 0)) (l3_4.toInt)) I4_1 z11 (z11a).2 z11c c32)) (by rw [(e38 : Int32.toInt x38 = (l3_4.toInt + 1))] <;> exact (z_X6_newNulls_10 l2_4.toInt l3_4.toInt I4_2)) (by rw [(e38 : Int32.toInt x38 = (l3_4.toInt + 1))] <;> exact (z_X6_newNulls_11 l3_4.toInt N4 hm4)) hT hS (lv_sub hl [1, 2, 3, 0] rfl)
          · refine xi_iinc (n := 1) (lv' := fun z9 => [(2, .int z9), (0, .ref a), (1, .ref p0), (3, .int l3_4)]) (k := 2) hx hb (rfl : Int32.toInt l2_4 = l2_4.toInt) (by decide) dX6_newNulls_35 hl rfl (by decide) (fun _ => rfl) (fun x35 ls t35 hl => ?_)
            have e35 : x35.toInt = (l2_4.toInt + 1) := (z_X6_newNulls_18 l2_4.toInt l3_4.toInt x35.toInt I4_2 c8 t35)
            have hl : lv_has ls 4 [(2, .int x35), (0, .ref a), (1, .ref p0), (3, .int l3_4)] := hl
            refine xi_iinc (n := 1) (lv' := fun z9 => [(3, .int z9), (2, .int x35), (0, .ref a), (1, .ref p0)]) (k := 3) hx hb (rfl : Int32.toInt l3_4 = l3_4.toInt) (by decide) dX6_newNulls_38 hl rfl (by decide) (fun _ => rfl) (fun x38 ls t38 hl => ?_)
            have e38 : x38.toInt = (l3_4.toInt + 1) := (z_X6_newNulls_7 l3_4.toInt x38.toInt I4_0 t38)
            have hl : lv_has ls 4 [(3, .int x38), (2, .int x35), (0, .ref a), (1, .ref p0)] := hl
            refine lv_goto (tgt := 4) hx hb dX6_newNulls_41 (by decide) ?_
            exact ih4 x35 x38 _ _ (by rw [(e38 : Int32.toInt x38 = (l3_4.toInt + 1))] <;> exact (z_X6_newNulls_8 l3_4.toInt I4_0 c8)) (by rw [(e35 : Int32.toInt x35 = (l2_4.toInt + 1)), (e38 : Int32.toInt x38 = (l3_4.toInt + 1))] <;> exact (z_X6_newNulls_21 l2_4.toInt (aI (G.2.1 (F a 0)) (l3_4.toInt)) (aI (G.2.1 (F p0 0)) (l3_4.toInt)) (bsI (nn1 (vw (G.2.1 (F a 0))) (vw (G.2.1 (F p0 0)))) (l3_4.toInt + 1)) (bsI (nn1 (vw (G.2.1 (F a 0))) (vw (G.2.1 (F p0 0)))) (l3_4.toInt)) (nn1 (vw (G.2.1 (F a 0))) (vw (G.2.1 (F p0 0))) (l3_4.toInt)) (vw (G.2.1 (F a 0)) (l3_4.toInt)) (vw (G.2.1 (F p0 0)) (l3_4.toInt)) I4_1 z11 (z11a).1 z11b z11c c20 c32)) (by rw [(e35 : Int32.toInt x35 = (l2_4.toInt + 1)), (e38 : Int32.toInt x38 = (l3_4.toInt + 1))] <;> exact (z_X6_newNulls_22 l2_4.toInt l3_4.toInt I4_2)) (by rw [(e38 : Int32.toInt x38 = (l3_4.toInt + 1))] <;> exact (z_X6_newNulls_11 l3_4.toInt N4 hm4)) hT hS (lv_sub hl [2, 3, 1, 0] rfl)
  exact L4 4294967297 0 0 _ _ (by decide) (z_X6_newNulls_24 (bsI (nn1 (vw (G.2.1 (F a 0))) (vw (G.2.1 (F p0 0)))) 0) z2) (by decide) (by decide) hT hS (lv_sub hl [2, 3, 1, 0] rfl)

theorem z_X10_answerOnPaper_2 (a0 : Int) (h0 : -2147483648 ≤ a0 ∧ a0 < 2147483648) : ¬ (2147483648 - a0 < ((0 : Nat) : Int)) := by omega
theorem z_X10_answerOnPaper_3 (a0 : Int) (a1 : Int) (a2 : Int) (h0 : 0 ≤ a2 ∧ a2 ≤ 1080) (h1 : (0 : Int) ≤ a0) (h2 : ¬ (a2 ≤ a0)) (h3 : a1 = (a0 + 1) ∨ (a0 + 1) < -2147483648 ∨ 2147483648 ≤ (a0 + 1)) : a1 = (a0 + 1) := by omega
theorem z_X10_answerOnPaper_4 (a0 : Int) (h0 : (0 : Int) ≤ a0) : (0 : Int) ≤ (a0 + 1) := by omega
theorem z_X10_answerOnPaper_5 (a0 : Int) (a1 : Nat) (h0 : 2147483648 - a0 < ((a1 + 1 : Nat) : Int)) : 2147483648 - (a0 + 1) < ((a1 : Nat) : Int) := by omega
abbrev rm_X10_answerOnPaper : Room := { frames := 6, cells := 0, slots := 0, locals := 149 }
set_option maxHeartbeats 4000000 in
set_option maxRecDepth 100000 in
theorem c_X10_answerOnPaper (l : Launch) (E : XE) (K : Nat → Nat) (F : Nat → Nat → Nat) (G : XG) (a : Nat) (ha : K a = 12) (sb : 0 ≤ ((G.1 (F a 2) 2).toInt) ∧ ((G.1 (F a 2) 2).toInt) ≤ 12) (ron : RO (vw (G.2.1 (F (F a 3) 0))) (aI (G.2.1 (F (F a 3) 1)))) (rop : RO (vw (G.2.1 (F (F a 5) 0))) (aI (G.2.1 (F (F a 5) 1)))) (bko : BKr K G (G.2.2.1 (F (F a 2) 1))) : Met l yX10_answerOnPaper (xw yX10_answerOnPaper cX10_answerOnPaper 2 (some .int)) rm_X10_answerOnPaper (va_Pc [.ref a] (XP E K F G)) (XQ E (fun v (u : XG) => ∃ r : Int32, v = .int r ∧ XFr [(F a 11, 3), (F a 9, 6)] [F (F a 11) 0, F (F a 11) 1, F (F a 11) 2, F (F a 9) 0, F (F a 9) 1, F (F a 9) 2, F (F a 9) 3, F (F a 9) 4, F (F a 9) 5] [] G u ∧ (AnsR ((G.1 a 18).toInt) r.toInt (gaL G (G.2.2.1 (F (F a 2) 1)) (vw (G.2.1 (F (F a 3) 0))) (vw (G.2.1 (F (F a 5) 0))) 0 (((G.1 (F a 2) 2).toInt)).toNat))) (fun u H => TW E K F u H)) 0 0 (xA E) := by
  refine x_enter (by decide) (Nat.le_of_ble_eq_true rfl) ?_
  intro p e s m args below meth c Q S hr hlk hnm hQ hP ls hl
  obtain ⟨hz, hK, hT⟩ := hP
  obtain ⟨hx, hb, -, -, -⟩ := id S
  obtain ⟨H, hT, hS, hgo⟩ : ∃ H : Heap, TW E K F G H ∧ va_S (xA E) s.heap H [] ∧ H = s.heap := ⟨_, hT, va_S.rf, rfl⟩
  rw [← hgo]
  have hl : lv_has ls 2 [(0, .ref a)] := hl
  obtain ⟨hk9999, hj9999⟩ := fkX10_11 hT ha
  obtain ⟨hk9999a, hj9999a⟩ := fkX10_9 hT ha
  obtain ⟨hk9999b, hj9999b⟩ := fkX1_0 hT hk9999
  obtain ⟨hk9999c, hj9999c⟩ := fkX1_1 hT hk9999
  obtain ⟨hk9999d, hj9999d⟩ := fkX1_2 hT hk9999
  obtain ⟨hk9999e, hj9999e⟩ := fkX4_0 hT hk9999a
  have hj9999f : F (F (F a 9) 0) 99 = 10 * 1 + 0 := by rw [hj9999e, hj9999a]
  obtain ⟨hk9999f, hj9999g⟩ := fkX4_1 hT hk9999a
  have hj9999h : F (F (F a 9) 1) 99 = 10 * 1 + 1 := by rw [hj9999g, hj9999a]
  obtain ⟨hk9999g, hj9999i⟩ := fkX4_2 hT hk9999a
  have hj9999j : F (F (F a 9) 2) 99 = 10 * 1 + 2 := by rw [hj9999i, hj9999a]
  obtain ⟨hk9999h, hj9999k⟩ := fkX4_3 hT hk9999a
  have hj9999l : F (F (F a 9) 3) 99 = 10 * 1 + 3 := by rw [hj9999k, hj9999a]
  obtain ⟨hk9999i, hj9999m⟩ := fkX4_4 hT hk9999a
  have hj9999n : F (F (F a 9) 4) 99 = 10 * 1 + 4 := by rw [hj9999m, hj9999a]
  obtain ⟨hk9999j, hj9999o⟩ := fkX4_5 hT hk9999a
  have hj9999p : F (F (F a 9) 5) 99 = 10 * 1 + 5 := by rw [hj9999o, hj9999a]
  obtain ⟨hk9999k, hj9999q⟩ := fkX10_2 hT ha
  obtain ⟨hk9999l, hj9999r⟩ := fkX0_1 hT hk9999k
  obtain ⟨hk9999m, hj9999s⟩ := fkX10_5 hT ha
  obtain ⟨hk9999n, hj9999t⟩ := fkX6_0 hT hk9999m
  have hj9999u : F (F (F a 5) 0) 99 = 2 := by rw [hj9999t, hj9999s]
  obtain ⟨hk9999o, hj9999v⟩ := fkX6_1 hT hk9999m
  have hj9999w : F (F (F a 5) 1) 99 = 2 := by rw [hj9999v, hj9999s]
  obtain ⟨hk9999p, hj9999y⟩ := fkX10_3 hT ha
  obtain ⟨hk9999q, hj9999z25⟩ := fkX6_0 hT hk9999p
  have hj9999z26 : F (F (F a 3) 0) 99 = 0 := by rw [hj9999z25, hj9999y]
  obtain ⟨hk9999r, hj9999z27⟩ := fkX6_1 hT hk9999p
  have hj9999z28 : F (F (F a 3) 1) 99 = 0 := by rw [hj9999z27, hj9999y]
  refine lv_aload_n hx hb dX10_answerOnPaper_0 rfl (lv_at hl 0 rfl) ?_
  refine lv_aload_n hx hb dX10_answerOnPaper_1 rfl (lv_at hl 0 rfl) ?_
  refine gX10_9 S hK hT ha kf_X10_61 dX10_answerOnPaper_2 (fun _ _ => ?_)
  refine lv_aload_n hx hb dX10_answerOnPaper_5 rfl (lv_at hl 0 rfl) ?_
  refine gX10_3 S hK hT ha kf_X10_37 dX10_answerOnPaper_6 (fun _ _ => ?_)
  refine lv_aload_n hx hb dX10_answerOnPaper_9 rfl (lv_at hl 0 rfl) ?_
  refine gX10_5 S hK hT ha kf_X10_44 dX10_answerOnPaper_10 (fun _ _ => ?_)
  refine lv_iconst (v := 0) hx hb dX10_answerOnPaper_13 (by decide) ?_
  refine x_cv0 (x_runV (b := a) (As := [.ref (F a 9), .ref (F a 3), .ref (F a 5), .int 0]) (rest := []) S (c_X10_gather l E K F G a (F a 9) (F a 3) (F a 5) 0 ha hk9999a hk9999p hk9999m (sb) (v_X10_answerOnPaper_14_1 (F := F) a G ron) (v_X10_answerOnPaper_14_2 (F := F) a G rop) (v_X10_answerOnPaper_14_3 (K := K) (F := F) G a bko) (v_X10_answerOnPaper_14_4 (K := K) (F := F) a G ha hk9999 hj9999 hk9999a hj9999a hk9999b hj9999b hk9999c hj9999c hk9999d hj9999d hk9999e hj9999f hk9999f hj9999h hk9999g hj9999j hk9999h hj9999l hk9999i hj9999n hk9999j hj9999p hk9999k hj9999q hk9999l hj9999r hk9999m hj9999s hk9999n hj9999u hk9999o hj9999w hk9999p hj9999y hk9999q hj9999z26 hk9999r hj9999z28 ron rop bko sb) (v_X10_answerOnPaper_14_5 (K := K) (F := F) a G ha hk9999 hj9999 hk9999a hj9999a hk9999b hj9999b hk9999c hj9999c hk9999d hj9999d hk9999e hj9999f hk9999f hj9999h hk9999g hj9999j hk9999h hj9999l hk9999i hj9999n hk9999j hj9999p hk9999k hj9999q hk9999l hj9999r hk9999m hj9999s hk9999n hj9999u hk9999o hj9999w hk9999p hj9999y hk9999q hj9999z26 hk9999r hj9999z28 ron rop bko sb)) mv_X10_gather km_X10_240 rfl rfl ⟨Nat.le_of_ble_eq_true rfl, Nat.le_of_ble_eq_true rfl⟩ (rc_12 hK hT ha) hK (fun _ => XP.blind) (fun U hU hW => XP.at hK hz hS hT hU hW) rfl hl.1 (Nat.le_of_ble_eq_true rfl) dX10_answerOnPaper_14 ⟨Nat.le_of_ble_eq_true rfl, Nat.le_of_ble_eq_true rfl⟩) hS ?_
  rintro G14 H locs ⟨hF14, t14, oq14⟩ hT hS
  have t14 : 0 ≤ ((G14.1 (F a 9) 6).toInt) ∧ ((G14.1 (F a 9) 6).toInt) ≤ 1080 := t14
  refine lv_iconst (v := 0) hx hb dX10_answerOnPaper_17 (by decide) ?_
  refine lv_istore_n (lv' := [(1, .int 0), (0, .ref a)]) hx hb dX10_answerOnPaper_18 rfl hl (by decide) rfl (fun ls hl => ?_)
  have L19 : ∀ (N19 : Nat) (l1_19 : Int32) (H : Heap) (locs : List Loc) (ls : Array Slot), (∀ j : Int, 0 ≤ j → j < l1_19.toInt → aI (G14.2.1 (F (F a 9) 5)) j ≠ 0 → (G.1 a 18).toInt ≠ 0 ∧ aI (G14.2.1 (F (F a 9) 4)) j ≠ 0) → (0 : Int) ≤ l1_19.toInt → 2147483648 - l1_19.toInt < ((N19 : Nat) : Int) → TW E K F G14 H → va_S (xA E) s.heap H locs → lv_has ls 2 [(0, .ref a), (1, .int l1_19)] → W p l e rm_X10_answerOnPaper s m args below meth c H locs 0 0 Q (F0 m 19 ls []) := by
    intro N19
    induction N19 with
    | zero =>
      intro l1_19 H locs ls pa I19_0 hm19
      exact absurd hm19 (z_X10_answerOnPaper_2 l1_19.toInt (xr l1_19))
    | succ N19 ih19 =>
      intro l1_19 H locs ls pa I19_0 hm19 hT hS hl
      refine lv_iload_n hx hb dX10_answerOnPaper_19 rfl (lv_at hl 1 rfl) ?_
      refine lv_aload_n hx hb dX10_answerOnPaper_20 rfl (lv_at hl 0 rfl) ?_
      refine gX10_9 S hK hT ha kf_X10_61 dX10_answerOnPaper_21 (fun _ _ => ?_)
      refine x_clp (x_runV (b := (F a 9)) (As := []) (rest := [.int l1_19]) S (c_X4_size l E K F G14 H (F a 9) hk9999a) mv_X4_size km_X10_232 rfl rfl ⟨Nat.le_of_ble_eq_true rfl, Nat.le_of_ble_eq_true rfl⟩ (rc_6 hK hT hk9999a) hK (fun _ => XPh.blind) (fun U hU hW => XPh.at hK hz hS hT hU hW) rfl hl.1 (Nat.le_of_ble_eq_true rfl) dX10_answerOnPaper_24 ⟨Nat.le_of_ble_eq_true rfl, Nat.le_of_ble_eq_true rfl⟩) hS ?_
      rintro _ _ locs ⟨x24, rfl, t24⟩ hS
      have t24 : x24.toInt = ((G14.1 (F a 9) 6).toInt) := t24
      refine xi_cge (tgt := 68) hx hb (rfl : Int32.toInt l1_19 = l1_19.toInt) (t24 : Int32.toInt x24 = ((G14.1 (F a 9) 6).toInt)) dX10_answerOnPaper_27 (by decide) (fun c27 => ?_) (fun c27 => ?_)
      · refine lv_aload_n hx hb dX10_answerOnPaper_68 rfl (lv_at hl 0 rfl) ?_
        refine gX10_9 S hK hT ha kf_X10_61 dX10_answerOnPaper_69 (fun _ _ => ?_)
        refine x_clp (x_runV (b := (F a 9)) (As := []) (rest := []) S (c_X4_size l E K F G14 H (F a 9) hk9999a) mv_X4_size km_X10_232 rfl rfl ⟨Nat.le_of_ble_eq_true rfl, Nat.le_of_ble_eq_true rfl⟩ (rc_6 hK hT hk9999a) hK (fun _ => XPh.blind) (fun U hU hW => XPh.at hK hz hS hT hU hW) rfl hl.1 (Nat.le_of_ble_eq_true rfl) dX10_answerOnPaper_72 ⟨Nat.le_of_ble_eq_true rfl, Nat.le_of_ble_eq_true rfl⟩) hS ?_
        rintro _ _ locs ⟨x72, rfl, t72⟩ hS
        have t72 : x72.toInt = ((G14.1 (F a 9) 6).toInt) := t72
        exact x_ri hx hb hr hlk hQ (Nat.le_of_ble_eq_true rfl) (Nat.le_of_ble_eq_true rfl) hS dX10_answerOnPaper_75 G14 ⟨_, rfl, (XFr.call XFr.rf hF14 (xm1 0 rfl (xm1 1 rfl xm0)) (xm1 0 rfl (xm1 1 rfl (xm1 2 rfl (xm1 3 rfl (xm1 4 rfl (xm1 5 rfl (xm1 6 rfl (xm1 7 rfl (xm1 8 rfl xm0))))))))) xm0), (by rw [(t72 : Int32.toInt x72 = ((G14.1 (F a 9) 6).toInt))] <;> exact (v_X10_answerOnPaper_75_6 (K := K) (F := F) a G G14 l1_19 N19 ha oq14 pa sb t14 I19_0 hm19 c27))⟩ hT
      · refine lv_aload_n hx hb dX10_answerOnPaper_30 rfl (lv_at hl 0 rfl) ?_
        refine gX10_9 S hK hT ha kf_X10_61 dX10_answerOnPaper_31 (fun _ _ => ?_)
        refine lv_iload_n hx hb dX10_answerOnPaper_34 rfl (lv_at hl 1 rfl) ?_
        refine x_clp (x_runV (b := (F a 9)) (As := [.int l1_19]) (rest := []) S (c_X4_fails l E K F G14 H (F a 9) l1_19 hk9999a) mv_X4_fails km_X10_309 rfl rfl ⟨Nat.le_of_ble_eq_true rfl, Nat.le_of_ble_eq_true rfl⟩ (rc_6 hK hT hk9999a) hK (fun _ => XPh.blind) (fun U hU hW => XPh.at hK hz hS hT hU hW) rfl hl.1 (Nat.le_of_ble_eq_true rfl) dX10_answerOnPaper_35 ⟨Nat.le_of_ble_eq_true rfl, Nat.le_of_ble_eq_true rfl⟩) hS ?_
        rintro _ _ locs ⟨x35, rfl, b35, t35⟩ hS
        have t35 : ((0 ≤ l1_19.toInt ∧ l1_19.toInt < ((G14.1 (F a 9) 6).toInt) ∧ l1_19.toInt < 1080) ∧ x35.toInt = (aI (G14.2.1 (F (F a 9) 5)) (l1_19.toInt))) ∨ (¬ (0 ≤ l1_19.toInt ∧ l1_19.toInt < ((G14.1 (F a 9) 6).toInt) ∧ l1_19.toInt < 1080) ∧ x35.toInt = 0) := t35
        refine xi_zeq (tgt := 62) hx hb (rfl : Int32.toInt x35 = x35.toInt) dX10_answerOnPaper_38 (by decide) (fun c38 => ?_) (fun c38 => ?_)
        · refine xi_iinc (n := 1) (lv' := fun z9 => [(1, .int z9), (0, .ref a)]) (k := 1) hx hb (rfl : Int32.toInt l1_19 = l1_19.toInt) (by decide) dX10_answerOnPaper_62 hl rfl (by decide) (fun _ => rfl) (fun x62 ls t62 hl => ?_)
          have e62 : x62.toInt = (l1_19.toInt + 1) := (z_X10_answerOnPaper_3 l1_19.toInt x62.toInt ((G14.1 (F a 9) 6).toInt) t14 I19_0 c27 t62)
          have hl : lv_has ls 2 [(1, .int x62), (0, .ref a)] := hl
          refine lv_goto (tgt := 19) hx hb dX10_answerOnPaper_65 (by decide) ?_
          exact ih19 x62 _ _ _ (by rw [(e62 : Int32.toInt x62 = (l1_19.toInt + 1))] <;> exact (v_X10_answerOnPaper_65_7 (K := K) (F := F) a G G14 l1_19 N19 x35 ha pa sb t14 I19_0 hm19 c27 t35 (xzi b35) c38)) (by rw [(e62 : Int32.toInt x62 = (l1_19.toInt + 1))] <;> exact (z_X10_answerOnPaper_4 l1_19.toInt I19_0)) (by rw [(e62 : Int32.toInt x62 = (l1_19.toInt + 1))] <;> exact (z_X10_answerOnPaper_5 l1_19.toInt N19 hm19)) hT hS (lv_sub hl [1, 0] rfl)
        · refine lv_aload_n hx hb dX10_answerOnPaper_41 rfl (lv_at hl 0 rfl) ?_
          refine gX10_18 S hK hT ha kf_X10_123 dX10_answerOnPaper_42 (v := (G.1 a 18)) (hF14.1 _ _ (xnj (by decide) (xnj (by decide) xn0))) (fun hz42 => ?_)
          refine xi_zeq (tgt := 59) hx hb (rfl : Int32.toInt (G.1 a 18) = ((G.1 a 18).toInt)) dX10_answerOnPaper_45 (by decide) (fun c45 => ?_) (fun c45 => ?_)
          · refine lv_bipush (v := (-5)) hx hb dX10_answerOnPaper_59 (by decide) ?_
            exact x_ri hx hb hr hlk hQ (Nat.le_of_ble_eq_true rfl) (Nat.le_of_ble_eq_true rfl) hS dX10_answerOnPaper_61 G14 ⟨_, rfl, (XFr.call XFr.rf hF14 (xm1 0 rfl (xm1 1 rfl xm0)) (xm1 0 rfl (xm1 1 rfl (xm1 2 rfl (xm1 3 rfl (xm1 4 rfl (xm1 5 rfl (xm1 6 rfl (xm1 7 rfl (xm1 8 rfl xm0))))))))) xm0), (by rw [((by decide) : Int32.toInt (-5) = (-5 : Int))] <;> exact (v_X10_answerOnPaper_61_8 (K := K) (F := F) a G G14 l1_19 N19 x35 ha oq14 sb t14 I19_0 hm19 c27 t35 (xzi b35) c38 (xzi hz42) c45))⟩ hT
          · refine lv_aload_n hx hb dX10_answerOnPaper_48 rfl (lv_at hl 0 rfl) ?_
            refine gX10_9 S hK hT ha kf_X10_61 dX10_answerOnPaper_49 (fun _ _ => ?_)
            refine lv_iload_n hx hb dX10_answerOnPaper_52 rfl (lv_at hl 1 rfl) ?_
            refine x_clp (x_runV (b := (F a 9)) (As := [.int l1_19]) (rest := []) S (c_X4_isLate l E K F G14 H (F a 9) l1_19 hk9999a) mv_X4_isLate km_X10_404 rfl rfl ⟨Nat.le_of_ble_eq_true rfl, Nat.le_of_ble_eq_true rfl⟩ (rc_6 hK hT hk9999a) hK (fun _ => XPh.blind) (fun U hU hW => XPh.at hK hz hS hT hU hW) rfl hl.1 (Nat.le_of_ble_eq_true rfl) dX10_answerOnPaper_53 ⟨Nat.le_of_ble_eq_true rfl, Nat.le_of_ble_eq_true rfl⟩) hS ?_
            rintro _ _ locs ⟨x53, rfl, b53, t53⟩ hS
            have t53 : ((0 ≤ l1_19.toInt ∧ l1_19.toInt < ((G14.1 (F a 9) 6).toInt) ∧ l1_19.toInt < 1080) ∧ x53.toInt = (aI (G14.2.1 (F (F a 9) 4)) (l1_19.toInt))) ∨ (¬ (0 ≤ l1_19.toInt ∧ l1_19.toInt < ((G14.1 (F a 9) 6).toInt) ∧ l1_19.toInt < 1080) ∧ x53.toInt = 0) := t53
            refine xi_zne (tgt := 62) hx hb (rfl : Int32.toInt x53 = x53.toInt) dX10_answerOnPaper_56 (by decide) (fun c56 => ?_) (fun c56 => ?_)
            · refine xi_iinc (n := 1) (lv' := fun z9 => [(1, .int z9), (0, .ref a)]) (k := 1) hx hb (rfl : Int32.toInt l1_19 = l1_19.toInt) (by decide) dX10_answerOnPaper_62 hl rfl (by decide) (fun _ => rfl) (fun x62 ls t62 hl => ?_)
              have e62 : x62.toInt = (l1_19.toInt + 1) := (z_X10_answerOnPaper_3 l1_19.toInt x62.toInt ((G14.1 (F a 9) 6).toInt) t14 I19_0 c27 t62)
              have hl : lv_has ls 2 [(1, .int x62), (0, .ref a)] := hl
              refine lv_goto (tgt := 19) hx hb dX10_answerOnPaper_65 (by decide) ?_
              exact ih19 x62 _ _ _ (by rw [(e62 : Int32.toInt x62 = (l1_19.toInt + 1))] <;> exact (v_X10_answerOnPaper_65_9 (K := K) (F := F) a G G14 l1_19 N19 x35 x53 ha pa sb t14 I19_0 hm19 c27 t35 (xzi b35) c38 (xzi hz42) c45 t53 (xzi b53) c56)) (by rw [(e62 : Int32.toInt x62 = (l1_19.toInt + 1))] <;> exact (z_X10_answerOnPaper_4 l1_19.toInt I19_0)) (by rw [(e62 : Int32.toInt x62 = (l1_19.toInt + 1))] <;> exact (z_X10_answerOnPaper_5 l1_19.toInt N19 hm19)) hT hS (lv_sub hl [1, 0] rfl)
            · refine lv_bipush (v := (-5)) hx hb dX10_answerOnPaper_59 (by decide) ?_
              exact x_ri hx hb hr hlk hQ (Nat.le_of_ble_eq_true rfl) (Nat.le_of_ble_eq_true rfl) hS dX10_answerOnPaper_61 G14 ⟨_, rfl, (XFr.call XFr.rf hF14 (xm1 0 rfl (xm1 1 rfl xm0)) (xm1 0 rfl (xm1 1 rfl (xm1 2 rfl (xm1 3 rfl (xm1 4 rfl (xm1 5 rfl (xm1 6 rfl (xm1 7 rfl (xm1 8 rfl xm0))))))))) xm0), (by rw [((by decide) : Int32.toInt (-5) = (-5 : Int))] <;> exact (v_X10_answerOnPaper_61_10 (K := K) (F := F) a G G14 l1_19 N19 x35 x53 ha oq14 sb t14 I19_0 hm19 c27 t35 (xzi b35) c38 (xzi hz42) c45 t53 (xzi b53) c56))⟩ hT
  exact L19 4294967297 0 _ _ _ (v_X10_answerOnPaper_18_11 (K := K) (F := F) a G G14 ha sb t14) (by decide) (by decide) hT hS (lv_sub hl [1, 0] rfl)

theorem z_X4_startsGroup_1 (a0 : Int) (a1 : Int) (a2 : Int) (h0 : a0 = 0) : ((1 : Int) = 1 ∧ (a0 = 0 ∨ a2 ≠ a1)) ∨ ((1 : Int) = 0 ∧ ¬ (a0 = 0 ∨ a2 ≠ a1)) := by omega
theorem z_X4_startsGroup_2 (a0 : Int) (a1 : Int) (a2 : Int) (h0 : 0 ≤ a0 ∧ a0 < a2 ∧ a2 ≤ 1080) (h1 : a1 = (a0 - (1 : Int)) ∨ (a0 - (1 : Int)) < -2147483648 ∨ 2147483648 ≤ (a0 - (1 : Int))) : a1 = (a0 - (1 : Int)) := by omega
theorem z_X4_startsGroup_3 (a0 : Int) (a1 : Int) (a2 : Int) (a3 : Int) (a4 : Int) (a5 : Int) (h0 : 0 ≤ a0 ∧ a0 < a3 ∧ a3 ≤ 1080) (h1 : ¬ (a0 = 0)) (h2 : ((0 ≤ a0 ∧ a0 < a3 ∧ a0 < 1080) ∧ a2 = a5) ∨ (¬ (0 ≤ a0 ∧ a0 < a3 ∧ a0 < 1080) ∧ a2 = -1)) (h3 : ((0 ≤ (a0 - (1 : Int)) ∧ (a0 - (1 : Int)) < a3 ∧ (a0 - (1 : Int)) < 1080) ∧ a1 = a4) ∨ (¬ (0 ≤ (a0 - (1 : Int)) ∧ (a0 - (1 : Int)) < a3 ∧ (a0 - (1 : Int)) < 1080) ∧ a1 = -1)) (h4 : a2 = a1) : ((0 : Int) = 1 ∧ (a0 = 0 ∨ a5 ≠ a4)) ∨ ((0 : Int) = 0 ∧ ¬ (a0 = 0 ∨ a5 ≠ a4)) := by omega
theorem z_X4_startsGroup_4 (a0 : Int) (a1 : Int) (a2 : Int) (a3 : Int) (a4 : Int) (a5 : Int) (h0 : 0 ≤ a0 ∧ a0 < a3 ∧ a3 ≤ 1080) (h1 : ((0 ≤ a0 ∧ a0 < a3 ∧ a0 < 1080) ∧ a2 = a5) ∨ (¬ (0 ≤ a0 ∧ a0 < a3 ∧ a0 < 1080) ∧ a2 = -1)) (h2 : ((0 ≤ (a0 - (1 : Int)) ∧ (a0 - (1 : Int)) < a3 ∧ (a0 - (1 : Int)) < 1080) ∧ a1 = a4) ∨ (¬ (0 ≤ (a0 - (1 : Int)) ∧ (a0 - (1 : Int)) < a3 ∧ (a0 - (1 : Int)) < 1080) ∧ a1 = -1)) (h3 : ¬ (a2 = a1)) : ((1 : Int) = 1 ∧ (a0 = 0 ∨ a5 ≠ a4)) ∨ ((1 : Int) = 0 ∧ ¬ (a0 = 0 ∨ a5 ≠ a4)) := by omega
abbrev rm_X4_startsGroup : Room := { frames := 2, cells := 0, slots := 0, locals := 42 }
set_option maxHeartbeats 4000000 in
set_option maxRecDepth 100000 in
theorem c_X4_startsGroup (l : Launch) (E : XE) (K : Nat → Nat) (F : Nat → Nat → Nat) (G : XG) (h0 : Heap) (a : Nat) (p0 : Int32) (ha : K a = 6) (s1 : 0 ≤ p0.toInt ∧ p0.toInt < ((G.1 a 6).toInt) ∧ ((G.1 a 6).toInt) ≤ 1080) : Met l yX4_startsGroup (xw yX4_startsGroup cX4_startsGroup 2 (some .boolean)) rm_X4_startsGroup (va_Pc [.ref a, .int p0] (XPh E K F G h0)) (XQ E (fun v (u : Unit) => ∃ r : Int32, v = .int r ∧ (r = 0 ∨ r = 1) ∧ ((r.toInt = 1 ∧ (p0.toInt = 0 ∨ (aI (G.2.1 (F a 0)) (p0.toInt)) ≠ (aI (G.2.1 (F a 0)) (p0.toInt - 1)))) ∨ (r.toInt = 0 ∧ ¬ (p0.toInt = 0 ∨ (aI (G.2.1 (F a 0)) (p0.toInt)) ≠ (aI (G.2.1 (F a 0)) (p0.toInt - 1)))))) (fun _ H => H = h0)) 0 0 (xA E) := by
  refine x_enter (by decide) (Nat.le_of_ble_eq_true rfl) ?_
  intro p e s m args below meth c Q S hr hlk hnm hQ hP ls hl
  obtain ⟨⟨hz, hK, hT⟩, hh⟩ := hP
  obtain ⟨hx, hb, -, -, -⟩ := id S
  have hS : va_S (xA E) s.heap s.heap [] := va_S.rf
  have hl : lv_has ls 2 [(0, .ref a), (1, .int p0)] := hl
  obtain ⟨hk9999, hj9999⟩ := fkX4_0 hT ha
  refine lv_iload_n hx hb dX4_startsGroup_0 rfl (lv_at hl 1 rfl) ?_
  refine xi_zeq (tgt := 19) hx hb (rfl : Int32.toInt p0 = p0.toInt) dX4_startsGroup_1 (by decide) (fun c1 => ?_) (fun c1 => ?_)
  · refine lv_iconst (v := 1) hx hb dX4_startsGroup_19 (by decide) ?_
    refine lv_goto (tgt := 24) hx hb dX4_startsGroup_20 (by decide) ?_
    exact x_rz hx hb hr (xnz (Or.inr rfl)) hlk hQ (Nat.le_of_ble_eq_true rfl) (Nat.le_of_ble_eq_true rfl) hS dX4_startsGroup_24 () ⟨_, rfl, (Or.inr rfl), (z_X4_startsGroup_1 p0.toInt (aI (G.2.1 (F a 0)) (p0.toInt - 1)) (aI (G.2.1 (F a 0)) (p0.toInt)) c1)⟩ hh
  · refine lv_aload_n hx hb dX4_startsGroup_4 rfl (lv_at hl 0 rfl) ?_
    refine lv_iload_n hx hb dX4_startsGroup_5 rfl (lv_at hl 1 rfl) ?_
    refine x_clp (x_runV (b := a) (As := [.int p0]) (rest := []) S (c_X4_number l E K F G s.heap a p0 ha) mv_X4_number km_X4_53 rfl rfl ⟨Nat.le_of_ble_eq_true rfl, Nat.le_of_ble_eq_true rfl⟩ (rc_6 hK hT ha) hK (fun _ => XPh.blind) (fun U hU hW => XPh.at hK hz hS hT hU hW) rfl hl.1 (Nat.le_of_ble_eq_true rfl) dX4_startsGroup_6 ⟨Nat.le_of_ble_eq_true rfl, Nat.le_of_ble_eq_true rfl⟩) hS ?_
    rintro _ _ locs ⟨x6, rfl, t6⟩ hS
    have t6 : ((0 ≤ p0.toInt ∧ p0.toInt < ((G.1 a 6).toInt) ∧ p0.toInt < 1080) ∧ x6.toInt = (aI (G.2.1 (F a 0)) (p0.toInt))) ∨ (¬ (0 ≤ p0.toInt ∧ p0.toInt < ((G.1 a 6).toInt) ∧ p0.toInt < 1080) ∧ x6.toInt = -1) := t6
    refine lv_aload_n hx hb dX4_startsGroup_9 rfl (lv_at hl 0 rfl) ?_
    refine lv_iload_n hx hb dX4_startsGroup_10 rfl (lv_at hl 1 rfl) ?_
    refine lv_iconst (v := 1) hx hb dX4_startsGroup_11 (by decide) ?_
    refine xi_isub hx hb (rfl : Int32.toInt p0 = p0.toInt) ((by decide) : Int32.toInt 1 = (1 : Int)) dX4_startsGroup_12 (fun x12 t12 => ?_)
    have e12 : x12.toInt = (p0.toInt - (1 : Int)) := (z_X4_startsGroup_2 p0.toInt x12.toInt ((G.1 a 6).toInt) s1 t12)
    refine x_clp (x_runV (b := a) (As := [.int x12]) (rest := [.int x6]) S (c_X4_number l E K F G s.heap a x12 ha) mv_X4_number km_X4_53 rfl rfl ⟨Nat.le_of_ble_eq_true rfl, Nat.le_of_ble_eq_true rfl⟩ (rc_6 hK hT ha) hK (fun _ => XPh.blind) (fun U hU hW => XPh.at hK hz hS hT hU hW) rfl hl.1 (Nat.le_of_ble_eq_true rfl) dX4_startsGroup_13 ⟨Nat.le_of_ble_eq_true rfl, Nat.le_of_ble_eq_true rfl⟩) hS ?_
    rintro _ _ locs ⟨x13, rfl, t13⟩ hS
    have t13 : ((0 ≤ (p0.toInt - (1 : Int)) ∧ (p0.toInt - (1 : Int)) < ((G.1 a 6).toInt) ∧ (p0.toInt - (1 : Int)) < 1080) ∧ x13.toInt = (aI (G.2.1 (F a 0)) (p0.toInt - 1))) ∨ (¬ (0 ≤ (p0.toInt - (1 : Int)) ∧ (p0.toInt - (1 : Int)) < ((G.1 a 6).toInt) ∧ (p0.toInt - (1 : Int)) < 1080) ∧ x13.toInt = -1) := by rw [(e12 : Int32.toInt x12 = (p0.toInt - (1 : Int)))] at t13; exact t13
    refine xi_ceq (tgt := 23) hx hb (rfl : Int32.toInt x6 = x6.toInt) (rfl : Int32.toInt x13 = x13.toInt) dX4_startsGroup_16 (by decide) (fun c16 => ?_) (fun c16 => ?_)
    · refine lv_iconst (v := 0) hx hb dX4_startsGroup_23 (by decide) ?_
      exact x_rz hx hb hr (xnz (Or.inl rfl)) hlk hQ (Nat.le_of_ble_eq_true rfl) (Nat.le_of_ble_eq_true rfl) hS dX4_startsGroup_24 () ⟨_, rfl, (Or.inl rfl), (z_X4_startsGroup_3 p0.toInt x13.toInt x6.toInt ((G.1 a 6).toInt) (aI (G.2.1 (F a 0)) (p0.toInt - 1)) (aI (G.2.1 (F a 0)) (p0.toInt)) s1 c1 t6 t13 c16)⟩ hh
    · refine lv_iconst (v := 1) hx hb dX4_startsGroup_19 (by decide) ?_
      refine lv_goto (tgt := 24) hx hb dX4_startsGroup_20 (by decide) ?_
      exact x_rz hx hb hr (xnz (Or.inr rfl)) hlk hQ (Nat.le_of_ble_eq_true rfl) (Nat.le_of_ble_eq_true rfl) hS dX4_startsGroup_24 () ⟨_, rfl, (Or.inr rfl), (z_X4_startsGroup_4 p0.toInt x13.toInt x6.toInt ((G.1 a 6).toInt) (aI (G.2.1 (F a 0)) (p0.toInt - 1)) (aI (G.2.1 (F a 0)) (p0.toInt)) s1 t6 t13 c16)⟩ hh

theorem z_X4_groups_1 (a0 : Int) (a1 : Int) (h0 : 0 ≤ a0 ∧ a0 ≤ a1) (h1 : 0 ≤ a1 ∧ a1 ≤ 1080) : ¬ (5000 - a0 < ((0 : Nat) : Int)) := by omega
theorem z_X4_groups_2 (a0 : Int) (a1 : Int) (a2 : Int) (a3 : Int) (a4 : Int) (h0 : 0 ≤ a1 ∧ a1 ≤ a2) (h1 : a0 = a4) (h2 : a2 ≤ a1) (h3 : a1 = a2 → a4 = a3) : a0 = a3 := by omega
theorem z_X4_groups_3 (a0 : Int) (a1 : Int) (h0 : 0 ≤ a0 ∧ a0 ≤ a1) : 0 ≤ a0 := by omega
theorem z_X4_groups_4 (a0 : Int) (a1 : Int) (h0 : 0 ≤ a1 ∧ a1 ≤ 1080) (h1 : 0 ≤ a0 ∧ a0 ≤ a1) (h2 : ¬ (a1 ≤ a0)) : 0 ≤ a0 ∧ a0 < a1 ∧ a1 ≤ 1080 := by omega
theorem z_X4_groups_5 (a0 : Int) (a1 : Int) (a2 : Int) (h0 : 0 ≤ a2 ∧ a2 ≤ 1080) (h1 : 0 ≤ a0 ∧ a0 ≤ a2) (h2 : a1 = (a0 + 1) ∨ (a0 + 1) < -2147483648 ∨ 2147483648 ≤ (a0 + 1)) : a1 = (a0 + 1) := by omega
theorem z_X4_groups_6 (a0 : Int) (a1 : Int) (h0 : 0 ≤ a0 ∧ a0 ≤ a1) (h1 : ¬ (a1 ≤ a0)) : 0 ≤ (a0 + 1) ∧ (a0 + 1) ≤ a1 := by omega
theorem z_X4_groups_8 (a0 : Int) (a1 : Int) (a2 : Int) (a3 : Int) (a4 : Int) (a5 : Int) (a6 : Int) (h0 : a0 = a6) (h1 : ¬ (a1 = 0 ∨ a4 ≠ a3) → a5 = a6) (h2 : (a2 = 1 ∧ (a1 = 0 ∨ a4 ≠ a3)) ∨ (a2 = 0 ∧ ¬ (a1 = 0 ∨ a4 ≠ a3))) (h3 : a2 = 0) : a0 = a5 := by omega
theorem z_X4_groups_9 (a0 : Int) (a1 : Nat) (h0 : 5000 - a0 < ((a1 + 1 : Nat) : Int)) : 5000 - (a0 + 1) < ((a1 : Nat) : Int) := by omega
theorem z_X4_groups_10 (a0 : Int) (a1 : Int) (a2 : Int) (a3 : Int) (h0 : 0 ≤ a3 ∧ a3 ≤ 1080) (h1 : 0 ≤ a0 ∧ a0 ≤ a1) (h2 : ¬ (a3 ≤ a1)) (h3 : a2 = (a0 + 1) ∨ (a0 + 1) < -2147483648 ∨ 2147483648 ≤ (a0 + 1)) : a2 = (a0 + 1) := by omega
theorem z_X4_groups_14 (a0 : Int) (a1 : Int) (a2 : Int) (a3 : Int) (a4 : Int) (a5 : Int) (a6 : Int) (h0 : a0 = a6) (h1 : (a1 = 0 ∨ a4 ≠ a3) → a5 = a6 + 1) (h2 : (a2 = 1 ∧ (a1 = 0 ∨ a4 ≠ a3)) ∨ (a2 = 0 ∧ ¬ (a1 = 0 ∨ a4 ≠ a3))) (h3 : ¬ (a2 = 0)) : (a0 + 1) = a5 := by omega
theorem z_X4_groups_16 (a0 : Int) (h0 : 0 ≤ a0 ∧ a0 ≤ 1080) : 0 ≤ (0 : Int) ∧ (0 : Int) ≤ a0 := by omega
abbrev rm_X4_groups : Room := { frames := 3, cells := 0, slots := 0, locals := 63 }
set_option maxHeartbeats 4000000 in
set_option maxRecDepth 100000 in
theorem c_X4_groups (l : Launch) (E : XE) (K : Nat → Nat) (F : Nat → Nat → Nat) (G : XG) (h0 : Heap) (a : Nat) (ha : K a = 6) (s0 : 0 ≤ ((G.1 a 6).toInt) ∧ ((G.1 a 6).toInt) ≤ 1080) : Met l yX4_groups (xw yX4_groups cX4_groups 3 (some .int)) rm_X4_groups (va_Pc [.ref a] (XPh E K F G h0)) (XQ E (fun v (u : Unit) => ∃ r : Int32, v = .int r ∧ (r.toInt = (stF (aI (G.2.1 (F a 0))) ((G.1 a 6).toInt)))) (fun _ H => H = h0)) 0 0 (xA E) := by
  refine x_enter (by decide) (Nat.le_of_ble_eq_true rfl) ?_
  intro p e s m args below meth c Q S hr hlk hnm hQ hP ls hl
  obtain ⟨⟨hz, hK, hT⟩, hh⟩ := hP
  obtain ⟨hx, hb, -, -, -⟩ := id S
  have hS : va_S (xA E) s.heap s.heap [] := va_S.rf
  have hl : lv_has ls 3 [(0, .ref a)] := hl
  obtain ⟨hk9999, hj9999⟩ := fkX4_0 hT ha
  have z0 : (stF (aI (G.2.1 (F a 0))) 0) = 0 := stF_0 _
  refine lv_iconst (v := 0) hx hb dX4_groups_0 (by decide) ?_
  refine lv_istore_n (lv' := [(1, .int 0), (0, .ref a)]) hx hb dX4_groups_1 rfl hl (by decide) rfl (fun ls hl => ?_)
  refine lv_iconst (v := 0) hx hb dX4_groups_2 (by decide) ?_
  refine lv_istore_n (lv' := [(2, .int 0), (1, .int 0), (0, .ref a)]) hx hb dX4_groups_3 rfl hl (by decide) rfl (fun ls hl => ?_)
  have L4 : ∀ (N4 : Nat) (l1_4 : Int32) (l2_4 : Int32) (locs : List Loc) (ls : Array Slot), 0 ≤ l2_4.toInt ∧ l2_4.toInt ≤ ((G.1 a 6).toInt) → 0 ≤ l1_4.toInt ∧ l1_4.toInt ≤ l2_4.toInt → l1_4.toInt = (stF (aI (G.2.1 (F a 0))) (l2_4.toInt)) → 5000 - l2_4.toInt < ((N4 : Nat) : Int) → TW E K F G s.heap → va_S (xA E) s.heap s.heap locs → lv_has ls 3 [(0, .ref a), (1, .int l1_4), (2, .int l2_4)] → W p l e rm_X4_groups s m args below meth c s.heap locs 0 0 Q (F0 m 4 ls []) := by
    intro N4
    induction N4 with
    | zero =>
      intro l1_4 l2_4 locs ls I4_0 I4_1 I4_2 hm4
      exact absurd hm4 (z_X4_groups_1 l2_4.toInt ((G.1 a 6).toInt) I4_0 s0)
    | succ N4 ih4 =>
      intro l1_4 l2_4 locs ls I4_0 I4_1 I4_2 hm4 hT hS hl
      refine lv_iload_n hx hb dX4_groups_4 rfl (lv_at hl 2 rfl) ?_
      refine lv_aload_n hx hb dX4_groups_5 rfl (lv_at hl 0 rfl) ?_
      refine gX4_6 S hK hT ha kf_X4_33 dX4_groups_6 (v := (G.1 a 6)) rfl (?_)
      refine xi_cge (tgt := 29) hx hb (rfl : Int32.toInt l2_4 = l2_4.toInt) (rfl : Int32.toInt (G.1 a 6) = ((G.1 a 6).toInt)) dX4_groups_9 (by decide) (fun c9 => ?_) (fun c9 => ?_)
      · have z29 : l2_4.toInt = ((G.1 a 6).toInt) → (stF (aI (G.2.1 (F a 0))) (l2_4.toInt)) = (stF (aI (G.2.1 (F a 0))) ((G.1 a 6).toInt)) := fun h9 => by rw [h9]
        refine lv_iload_n hx hb dX4_groups_29 rfl (lv_at hl 1 rfl) ?_
        exact x_ri hx hb hr hlk hQ (Nat.le_of_ble_eq_true rfl) (Nat.le_of_ble_eq_true rfl) hS dX4_groups_30 () ⟨_, rfl, (z_X4_groups_2 l1_4.toInt l2_4.toInt ((G.1 a 6).toInt) (stF (aI (G.2.1 (F a 0))) ((G.1 a 6).toInt)) (stF (aI (G.2.1 (F a 0))) (l2_4.toInt)) I4_0 I4_2 c9 z29)⟩ hh
      · have z12 : ((l2_4.toInt = 0 ∨ (aI (G.2.1 (F a 0)) (l2_4.toInt)) ≠ (aI (G.2.1 (F a 0)) (l2_4.toInt - 1))) → (stF (aI (G.2.1 (F a 0))) (l2_4.toInt + 1)) = (stF (aI (G.2.1 (F a 0))) (l2_4.toInt)) + 1) ∧ (¬ (l2_4.toInt = 0 ∨ (aI (G.2.1 (F a 0)) (l2_4.toInt)) ≠ (aI (G.2.1 (F a 0)) (l2_4.toInt - 1))) → (stF (aI (G.2.1 (F a 0))) (l2_4.toInt + 1)) = (stF (aI (G.2.1 (F a 0))) (l2_4.toInt))) := stF_s (z_X4_groups_3 l2_4.toInt ((G.1 a 6).toInt) I4_0)
        refine lv_aload_n hx hb dX4_groups_12 rfl (lv_at hl 0 rfl) ?_
        refine lv_iload_n hx hb dX4_groups_13 rfl (lv_at hl 2 rfl) ?_
        refine x_clp (x_runV (b := a) (As := [.int l2_4]) (rest := []) S (c_X4_startsGroup l E K F G s.heap a l2_4 ha (z_X4_groups_4 l2_4.toInt ((G.1 a 6).toInt) s0 I4_0 c9)) mv_X4_startsGroup km_X4_56 rfl rfl ⟨Nat.le_of_ble_eq_true rfl, Nat.le_of_ble_eq_true rfl⟩ (rc_6 hK hT ha) hK (fun _ => XPh.blind) (fun U hU hW => XPh.at hK hz hS hT hU hW) rfl hl.1 (Nat.le_of_ble_eq_true rfl) dX4_groups_14 ⟨Nat.le_of_ble_eq_true rfl, Nat.le_of_ble_eq_true rfl⟩) hS ?_
        rintro _ _ locs ⟨x14, rfl, b14, t14⟩ hS
        have t14 : (x14.toInt = 1 ∧ (l2_4.toInt = 0 ∨ (aI (G.2.1 (F a 0)) (l2_4.toInt)) ≠ (aI (G.2.1 (F a 0)) (l2_4.toInt - 1)))) ∨ (x14.toInt = 0 ∧ ¬ (l2_4.toInt = 0 ∨ (aI (G.2.1 (F a 0)) (l2_4.toInt)) ≠ (aI (G.2.1 (F a 0)) (l2_4.toInt - 1)))) := t14
        refine xi_zeq (tgt := 23) hx hb (rfl : Int32.toInt x14 = x14.toInt) dX4_groups_17 (by decide) (fun c17 => ?_) (fun c17 => ?_)
        · refine xi_iinc (n := 1) (lv' := fun z9 => [(2, .int z9), (0, .ref a), (1, .int l1_4)]) (k := 2) hx hb (rfl : Int32.toInt l2_4 = l2_4.toInt) (by decide) dX4_groups_23 hl rfl (by decide) (fun _ => rfl) (fun x23 ls t23 hl => ?_)
          have e23 : x23.toInt = (l2_4.toInt + 1) := (z_X4_groups_5 l2_4.toInt x23.toInt ((G.1 a 6).toInt) s0 I4_0 t23)
          have hl : lv_has ls 3 [(2, .int x23), (0, .ref a), (1, .int l1_4)] := hl
          refine lv_goto (tgt := 4) hx hb dX4_groups_26 (by decide) ?_
          exact ih4 l1_4 x23 _ _ (by rw [(e23 : Int32.toInt x23 = (l2_4.toInt + 1))] <;> exact (z_X4_groups_6 l2_4.toInt ((G.1 a 6).toInt) I4_0 c9)) (by rw [(e23 : Int32.toInt x23 = (l2_4.toInt + 1))] <;> exact (z_X6_newNulls_10 l1_4.toInt l2_4.toInt I4_1)) (by rw [(e23 : Int32.toInt x23 = (l2_4.toInt + 1))] <;> exact (z_X4_groups_8 l1_4.toInt l2_4.toInt x14.toInt (aI (G.2.1 (F a 0)) (l2_4.toInt - 1)) (aI (G.2.1 (F a 0)) (l2_4.toInt)) (stF (aI (G.2.1 (F a 0))) (l2_4.toInt + 1)) (stF (aI (G.2.1 (F a 0))) (l2_4.toInt)) I4_2 (z12).2 t14 c17)) (by rw [(e23 : Int32.toInt x23 = (l2_4.toInt + 1))] <;> exact (z_X4_groups_9 l2_4.toInt N4 hm4)) hT hS (lv_sub hl [1, 2, 0] rfl)
        · refine xi_iinc (n := 1) (lv' := fun z9 => [(1, .int z9), (0, .ref a), (2, .int l2_4)]) (k := 1) hx hb (rfl : Int32.toInt l1_4 = l1_4.toInt) (by decide) dX4_groups_20 hl rfl (by decide) (fun _ => rfl) (fun x20 ls t20 hl => ?_)
          have e20 : x20.toInt = (l1_4.toInt + 1) := (z_X4_groups_10 l1_4.toInt l2_4.toInt x20.toInt ((G.1 a 6).toInt) s0 I4_1 c9 t20)
          have hl : lv_has ls 3 [(1, .int x20), (0, .ref a), (2, .int l2_4)] := hl
          refine xi_iinc (n := 1) (lv' := fun z9 => [(2, .int z9), (1, .int x20), (0, .ref a)]) (k := 2) hx hb (rfl : Int32.toInt l2_4 = l2_4.toInt) (by decide) dX4_groups_23 hl rfl (by decide) (fun _ => rfl) (fun x23 ls t23 hl => ?_)
          have e23 : x23.toInt = (l2_4.toInt + 1) := (z_X4_groups_5 l2_4.toInt x23.toInt ((G.1 a 6).toInt) s0 I4_0 t23)
          have hl : lv_has ls 3 [(2, .int x23), (1, .int x20), (0, .ref a)] := hl
          refine lv_goto (tgt := 4) hx hb dX4_groups_26 (by decide) ?_
          exact ih4 x20 x23 _ _ (by rw [(e23 : Int32.toInt x23 = (l2_4.toInt + 1))] <;> exact (z_X4_groups_6 l2_4.toInt ((G.1 a 6).toInt) I4_0 c9)) (by rw [(e20 : Int32.toInt x20 = (l1_4.toInt + 1)), (e23 : Int32.toInt x23 = (l2_4.toInt + 1))] <;> exact (z_X6_newNulls_22 l1_4.toInt l2_4.toInt I4_1)) (by rw [(e20 : Int32.toInt x20 = (l1_4.toInt + 1)), (e23 : Int32.toInt x23 = (l2_4.toInt + 1))] <;> exact (z_X4_groups_14 l1_4.toInt l2_4.toInt x14.toInt (aI (G.2.1 (F a 0)) (l2_4.toInt - 1)) (aI (G.2.1 (F a 0)) (l2_4.toInt)) (stF (aI (G.2.1 (F a 0))) (l2_4.toInt + 1)) (stF (aI (G.2.1 (F a 0))) (l2_4.toInt)) I4_2 (z12).1 t14 c17)) (by rw [(e23 : Int32.toInt x23 = (l2_4.toInt + 1))] <;> exact (z_X4_groups_9 l2_4.toInt N4 hm4)) hT hS (lv_sub hl [2, 1, 0] rfl)
  exact L4 4294967297 0 0 _ _ (z_X4_groups_16 ((G.1 a 6).toInt) s0) (by decide) (z_X6_newNulls_24 (stF (aI (G.2.1 (F a 0))) 0) z0) (by decide) hT hS (lv_sub hl [2, 1, 0] rfl)

theorem z_X4_groupStart_2 (a0 : Int) (a1 : Int) (a2 : Int) (a3 : Int) (a4 : Int) (a5 : Int) (a6 : Int) (a7 : Int) (a8 : Int) (h0 : 0 ≤ a1 ∧ a1 ≤ a3) (h1 : a0 = a8) (h2 : a2 < 0 ∨ a0 ≤ a2) (h3 : a3 ≤ a1) (h4 : a1 = a3 → a8 = a6) : ((-1 : Int) = -1 ∧ (a2 < 0 ∨ a6 ≤ a2)) ∨ ((0 ≤ (-1 : Int) ∧ (-1 : Int) < a3) ∧ ((-1 : Int) = 0 ∨ a5 ≠ a4) ∧ a7 = a2) := by omega
theorem z_X4_groupStart_16 (a0 : Int) (a1 : Int) (h0 : a1 < 0 ∨ a0 ≤ a1) (h1 : a0 ≠ a1) : a1 < 0 ∨ (a0 + 1) ≤ a1 := by omega
theorem z_X4_groupStart_18 (a0 : Int) (a1 : Int) (a2 : Int) (a3 : Int) (a4 : Int) (a5 : Int) (a6 : Int) (a7 : Int) (a8 : Int) (h0 : 0 ≤ a1 ∧ a1 ≤ a4) (h1 : a0 = a8) (h2 : ¬ (a4 ≤ a1)) (h3 : (a3 = 1 ∧ (a1 = 0 ∨ a6 ≠ a5)) ∨ (a3 = 0 ∧ ¬ (a1 = 0 ∨ a6 ≠ a5))) (h4 : ¬ (a3 = 0)) (h5 : ¬ (a0 ≠ a2)) : (a1 = -1 ∧ (a2 < 0 ∨ a7 ≤ a2)) ∨ ((0 ≤ a1 ∧ a1 < a4) ∧ (a1 = 0 ∨ a6 ≠ a5) ∧ a8 = a2) := by omega
theorem z_X4_groupStart_21 (a0 : Int) : a0 < 0 ∨ (0 : Int) ≤ a0 := by omega
abbrev rm_X4_groupStart : Room := { frames := 3, cells := 0, slots := 0, locals := 63 }
set_option maxHeartbeats 4000000 in
set_option maxRecDepth 100000 in
theorem c_X4_groupStart (l : Launch) (E : XE) (K : Nat → Nat) (F : Nat → Nat → Nat) (G : XG) (h0 : Heap) (a : Nat) (p0 : Int32) (ha : K a = 6) (s0 : 0 ≤ ((G.1 a 6).toInt) ∧ ((G.1 a 6).toInt) ≤ 1080) : Met l yX4_groupStart (xw yX4_groupStart cX4_groupStart 4 (some .int)) rm_X4_groupStart (va_Pc [.ref a, .int p0] (XPh E K F G h0)) (XQ E (fun v (u : Unit) => ∃ r : Int32, v = .int r ∧ ((r.toInt = -1 ∧ (p0.toInt < 0 ∨ (stF (aI (G.2.1 (F a 0))) ((G.1 a 6).toInt)) ≤ p0.toInt)) ∨ ((0 ≤ r.toInt ∧ r.toInt < ((G.1 a 6).toInt)) ∧ (r.toInt = 0 ∨ (aI (G.2.1 (F a 0)) (r.toInt)) ≠ (aI (G.2.1 (F a 0)) (r.toInt - 1))) ∧ (stF (aI (G.2.1 (F a 0))) (r.toInt)) = p0.toInt))) (fun _ H => H = h0)) 0 0 (xA E) := by
  refine x_enter (by decide) (Nat.le_of_ble_eq_true rfl) ?_
  intro p e s m args below meth c Q S hr hlk hnm hQ hP ls hl
  obtain ⟨⟨hz, hK, hT⟩, hh⟩ := hP
  obtain ⟨hx, hb, -, -, -⟩ := id S
  have hS : va_S (xA E) s.heap s.heap [] := va_S.rf
  have hl : lv_has ls 4 [(0, .ref a), (1, .int p0)] := hl
  obtain ⟨hk9999, hj9999⟩ := fkX4_0 hT ha
  have z0 : (stF (aI (G.2.1 (F a 0))) 0) = 0 := stF_0 _
  refine lv_iconst (v := 0) hx hb dX4_groupStart_0 (by decide) ?_
  refine lv_istore_n (lv' := [(2, .int 0), (0, .ref a), (1, .int p0)]) hx hb dX4_groupStart_1 rfl hl (by decide) rfl (fun ls hl => ?_)
  refine lv_iconst (v := 0) hx hb dX4_groupStart_2 (by decide) ?_
  refine lv_istore_n (lv' := [(3, .int 0), (2, .int 0), (0, .ref a), (1, .int p0)]) hx hb dX4_groupStart_3 rfl hl (by decide) rfl (fun ls hl => ?_)
  have L4 : ∀ (N4 : Nat) (l2_4 : Int32) (l3_4 : Int32) (locs : List Loc) (ls : Array Slot), 0 ≤ l3_4.toInt ∧ l3_4.toInt ≤ ((G.1 a 6).toInt) → 0 ≤ l2_4.toInt ∧ l2_4.toInt ≤ l3_4.toInt → l2_4.toInt = (stF (aI (G.2.1 (F a 0))) (l3_4.toInt)) → p0.toInt < 0 ∨ l2_4.toInt ≤ p0.toInt → 5000 - l3_4.toInt < ((N4 : Nat) : Int) → TW E K F G s.heap → va_S (xA E) s.heap s.heap locs → lv_has ls 4 [(0, .ref a), (1, .int p0), (2, .int l2_4), (3, .int l3_4)] → W p l e rm_X4_groupStart s m args below meth c s.heap locs 0 0 Q (F0 m 4 ls []) := by
    intro N4
    induction N4 with
    | zero =>
      intro l2_4 l3_4 locs ls I4_0 I4_1 I4_2 I4_3 hm4
      exact absurd hm4 (z_X4_groups_1 l3_4.toInt ((G.1 a 6).toInt) I4_0 s0)
    | succ N4 ih4 =>
      intro l2_4 l3_4 locs ls I4_0 I4_1 I4_2 I4_3 hm4 hT hS hl
      refine lv_iload_n hx hb dX4_groupStart_4 rfl (lv_at hl 3 rfl) ?_
      refine lv_aload_n hx hb dX4_groupStart_5 rfl (lv_at hl 0 rfl) ?_
      refine gX4_6 S hK hT ha kf_X4_33 dX4_groupStart_6 (v := (G.1 a 6)) rfl (?_)
      refine xi_cge (tgt := 36) hx hb (rfl : Int32.toInt l3_4 = l3_4.toInt) (rfl : Int32.toInt (G.1 a 6) = ((G.1 a 6).toInt)) dX4_groupStart_9 (by decide) (fun c9 => ?_) (fun c9 => ?_)
      · have z36 : l3_4.toInt = ((G.1 a 6).toInt) → (stF (aI (G.2.1 (F a 0))) (l3_4.toInt)) = (stF (aI (G.2.1 (F a 0))) ((G.1 a 6).toInt)) := fun h9 => by rw [h9]
        refine lv_iconst (v := (-1)) hx hb dX4_groupStart_36 (by decide) ?_
        exact x_ri hx hb hr hlk hQ (Nat.le_of_ble_eq_true rfl) (Nat.le_of_ble_eq_true rfl) hS dX4_groupStart_37 () ⟨_, rfl, (by rw [((by decide) : Int32.toInt (-1) = (-1 : Int))] <;> exact (z_X4_groupStart_2 l2_4.toInt l3_4.toInt p0.toInt ((G.1 a 6).toInt) (aI (G.2.1 (F a 0)) ((-1 : Int) - 1)) (aI (G.2.1 (F a 0)) (-1 : Int)) (stF (aI (G.2.1 (F a 0))) ((G.1 a 6).toInt)) (stF (aI (G.2.1 (F a 0))) (-1 : Int)) (stF (aI (G.2.1 (F a 0))) (l3_4.toInt)) I4_0 I4_2 I4_3 c9 z36))⟩ hh
      · have z12 : ((l3_4.toInt = 0 ∨ (aI (G.2.1 (F a 0)) (l3_4.toInt)) ≠ (aI (G.2.1 (F a 0)) (l3_4.toInt - 1))) → (stF (aI (G.2.1 (F a 0))) (l3_4.toInt + 1)) = (stF (aI (G.2.1 (F a 0))) (l3_4.toInt)) + 1) ∧ (¬ (l3_4.toInt = 0 ∨ (aI (G.2.1 (F a 0)) (l3_4.toInt)) ≠ (aI (G.2.1 (F a 0)) (l3_4.toInt - 1))) → (stF (aI (G.2.1 (F a 0))) (l3_4.toInt + 1)) = (stF (aI (G.2.1 (F a 0))) (l3_4.toInt))) := stF_s (z_X4_groups_3 l3_4.toInt ((G.1 a 6).toInt) I4_0)
        refine lv_aload_n hx hb dX4_groupStart_12 rfl (lv_at hl 0 rfl) ?_
        refine lv_iload_n hx hb dX4_groupStart_13 rfl (lv_at hl 3 rfl) ?_
        refine x_clp (x_runV (b := a) (As := [.int l3_4]) (rest := []) S (c_X4_startsGroup l E K F G s.heap a l3_4 ha (z_X4_groups_4 l3_4.toInt ((G.1 a 6).toInt) s0 I4_0 c9)) mv_X4_startsGroup km_X4_56 rfl rfl ⟨Nat.le_of_ble_eq_true rfl, Nat.le_of_ble_eq_true rfl⟩ (rc_6 hK hT ha) hK (fun _ => XPh.blind) (fun U hU hW => XPh.at hK hz hS hT hU hW) rfl hl.1 (Nat.le_of_ble_eq_true rfl) dX4_groupStart_14 ⟨Nat.le_of_ble_eq_true rfl, Nat.le_of_ble_eq_true rfl⟩) hS ?_
        rintro _ _ locs ⟨x14, rfl, b14, t14⟩ hS
        have t14 : (x14.toInt = 1 ∧ (l3_4.toInt = 0 ∨ (aI (G.2.1 (F a 0)) (l3_4.toInt)) ≠ (aI (G.2.1 (F a 0)) (l3_4.toInt - 1)))) ∨ (x14.toInt = 0 ∧ ¬ (l3_4.toInt = 0 ∨ (aI (G.2.1 (F a 0)) (l3_4.toInt)) ≠ (aI (G.2.1 (F a 0)) (l3_4.toInt - 1)))) := t14
        refine xi_zeq (tgt := 30) hx hb (rfl : Int32.toInt x14 = x14.toInt) dX4_groupStart_17 (by decide) (fun c17 => ?_) (fun c17 => ?_)
        · refine xi_iinc (n := 1) (lv' := fun z9 => [(3, .int z9), (0, .ref a), (1, .int p0), (2, .int l2_4)]) (k := 3) hx hb (rfl : Int32.toInt l3_4 = l3_4.toInt) (by decide) dX4_groupStart_30 hl rfl (by decide) (fun _ => rfl) (fun x30 ls t30 hl => ?_)
          have e30 : x30.toInt = (l3_4.toInt + 1) := (z_X4_groups_5 l3_4.toInt x30.toInt ((G.1 a 6).toInt) s0 I4_0 t30)
          have hl : lv_has ls 4 [(3, .int x30), (0, .ref a), (1, .int p0), (2, .int l2_4)] := hl
          refine lv_goto (tgt := 4) hx hb dX4_groupStart_33 (by decide) ?_
          exact ih4 l2_4 x30 _ _ (by rw [(e30 : Int32.toInt x30 = (l3_4.toInt + 1))] <;> exact (z_X4_groups_6 l3_4.toInt ((G.1 a 6).toInt) I4_0 c9)) (by rw [(e30 : Int32.toInt x30 = (l3_4.toInt + 1))] <;> exact (z_X6_newNulls_10 l2_4.toInt l3_4.toInt I4_1)) (by rw [(e30 : Int32.toInt x30 = (l3_4.toInt + 1))] <;> exact (z_X4_groups_8 l2_4.toInt l3_4.toInt x14.toInt (aI (G.2.1 (F a 0)) (l3_4.toInt - 1)) (aI (G.2.1 (F a 0)) (l3_4.toInt)) (stF (aI (G.2.1 (F a 0))) (l3_4.toInt + 1)) (stF (aI (G.2.1 (F a 0))) (l3_4.toInt)) I4_2 (z12).2 t14 c17)) (I4_3) (by rw [(e30 : Int32.toInt x30 = (l3_4.toInt + 1))] <;> exact (z_X4_groups_9 l3_4.toInt N4 hm4)) hT hS (lv_sub hl [1, 2, 3, 0] rfl)
        · refine lv_iload_n hx hb dX4_groupStart_20 rfl (lv_at hl 2 rfl) ?_
          refine lv_iload_n hx hb dX4_groupStart_21 rfl (lv_at hl 1 rfl) ?_
          refine xi_cne (tgt := 27) hx hb (rfl : Int32.toInt l2_4 = l2_4.toInt) (rfl : Int32.toInt p0 = p0.toInt) dX4_groupStart_22 (by decide) (fun c22 => ?_) (fun c22 => ?_)
          · refine xi_iinc (n := 1) (lv' := fun z9 => [(2, .int z9), (0, .ref a), (1, .int p0), (3, .int l3_4)]) (k := 2) hx hb (rfl : Int32.toInt l2_4 = l2_4.toInt) (by decide) dX4_groupStart_27 hl rfl (by decide) (fun _ => rfl) (fun x27 ls t27 hl => ?_)
            have e27 : x27.toInt = (l2_4.toInt + 1) := (z_X4_groups_10 l2_4.toInt l3_4.toInt x27.toInt ((G.1 a 6).toInt) s0 I4_1 c9 t27)
            have hl : lv_has ls 4 [(2, .int x27), (0, .ref a), (1, .int p0), (3, .int l3_4)] := hl
            refine xi_iinc (n := 1) (lv' := fun z9 => [(3, .int z9), (2, .int x27), (0, .ref a), (1, .int p0)]) (k := 3) hx hb (rfl : Int32.toInt l3_4 = l3_4.toInt) (by decide) dX4_groupStart_30 hl rfl (by decide) (fun _ => rfl) (fun x30 ls t30 hl => ?_)
            have e30 : x30.toInt = (l3_4.toInt + 1) := (z_X4_groups_5 l3_4.toInt x30.toInt ((G.1 a 6).toInt) s0 I4_0 t30)
            have hl : lv_has ls 4 [(3, .int x30), (2, .int x27), (0, .ref a), (1, .int p0)] := hl
            refine lv_goto (tgt := 4) hx hb dX4_groupStart_33 (by decide) ?_
            exact ih4 x27 x30 _ _ (by rw [(e30 : Int32.toInt x30 = (l3_4.toInt + 1))] <;> exact (z_X4_groups_6 l3_4.toInt ((G.1 a 6).toInt) I4_0 c9)) (by rw [(e27 : Int32.toInt x27 = (l2_4.toInt + 1)), (e30 : Int32.toInt x30 = (l3_4.toInt + 1))] <;> exact (z_X6_newNulls_22 l2_4.toInt l3_4.toInt I4_1)) (by rw [(e27 : Int32.toInt x27 = (l2_4.toInt + 1)), (e30 : Int32.toInt x30 = (l3_4.toInt + 1))] <;> exact (z_X4_groups_14 l2_4.toInt l3_4.toInt x14.toInt (aI (G.2.1 (F a 0)) (l3_4.toInt - 1)) (aI (G.2.1 (F a 0)) (l3_4.toInt)) (stF (aI (G.2.1 (F a 0))) (l3_4.toInt + 1)) (stF (aI (G.2.1 (F a 0))) (l3_4.toInt)) I4_2 (z12).1 t14 c17)) (by rw [(e27 : Int32.toInt x27 = (l2_4.toInt + 1))] <;> exact (z_X4_groupStart_16 l2_4.toInt p0.toInt I4_3 c22)) (by rw [(e30 : Int32.toInt x30 = (l3_4.toInt + 1))] <;> exact (z_X4_groups_9 l3_4.toInt N4 hm4)) hT hS (lv_sub hl [2, 3, 1, 0] rfl)
          · refine lv_iload_n hx hb dX4_groupStart_25 rfl (lv_at hl 3 rfl) ?_
            exact x_ri hx hb hr hlk hQ (Nat.le_of_ble_eq_true rfl) (Nat.le_of_ble_eq_true rfl) hS dX4_groupStart_26 () ⟨_, rfl, (z_X4_groupStart_18 l2_4.toInt l3_4.toInt p0.toInt x14.toInt ((G.1 a 6).toInt) (aI (G.2.1 (F a 0)) (l3_4.toInt - 1)) (aI (G.2.1 (F a 0)) (l3_4.toInt)) (stF (aI (G.2.1 (F a 0))) ((G.1 a 6).toInt)) (stF (aI (G.2.1 (F a 0))) (l3_4.toInt)) I4_0 I4_2 c9 t14 c17 c22)⟩ hh
  exact L4 4294967297 0 0 _ _ (z_X4_groups_16 ((G.1 a 6).toInt) s0) (by decide) (z_X6_newNulls_24 (stF (aI (G.2.1 (F a 0))) 0) z0) (z_X4_groupStart_21 p0.toInt) (by decide) hT hS (lv_sub hl [2, 3, 1, 0] rfl)

theorem z_X0_lateOnes_1 (a0 : Int) (h0 : 0 ≤ a0 ∧ a0 ≤ 12) : ¬ (100 - a0 < ((0 : Nat) : Int)) := by omega
theorem z_X0_lateOnes_2 (a0 : Int) (h0 : 0 ≤ a0 ∧ a0 ≤ 12) (h1 : ¬ ((12 : Int) ≤ a0)) : 0 ≤ a0 ∧ a0 < 12 := by omega
theorem z_X0_lateOnes_3 (a0 : Int) (a1 : Int) (h0 : 0 ≤ a0 ∧ a0 ≤ 12) (h1 : a1 = (a0 + 1) ∨ (a0 + 1) < -2147483648 ∨ 2147483648 ≤ (a0 + 1)) : a1 = (a0 + 1) := by omega
theorem z_X0_lateOnes_4 (a0 : Int) (h0 : 0 ≤ a0 ∧ a0 ≤ 12) (h1 : ¬ ((12 : Int) ≤ a0)) : 0 ≤ (a0 + 1) ∧ (a0 + 1) ≤ 12 := by omega
theorem z_X0_lateOnes_6 (a0 : Int) (a1 : Nat) (h0 : 100 - a0 < ((a1 + 1 : Nat) : Int)) : 100 - (a0 + 1) < ((a1 : Nat) : Int) := by omega
theorem z_X0_lateOnes_11 (a0 : Int) (a1 : Int) (a2 : Int) (h0 : 0 ≤ a0 ∧ a0 ≤ a1) (h1 : ¬ ((12 : Int) ≤ a1)) (h2 : a2 = (a0 + 1) ∨ (a0 + 1) < -2147483648 ∨ 2147483648 ≤ (a0 + 1)) : a2 = (a0 + 1) := by omega
abbrev rm_X0_lateOnes : Room := { frames := 0, cells := 0, slots := 0, locals := 0 }
set_option maxHeartbeats 4000000 in
set_option maxRecDepth 100000 in
theorem c_X0_lateOnes (l : Launch) (E : XE) (K : Nat → Nat) (F : Nat → Nat → Nat) (G : XG) (h0 : Heap) (a : Nat) (ha : K a = 2) : Met l yX0_lateOnes (xw yX0_lateOnes cX0_lateOnes 4 (some .int)) rm_X0_lateOnes (va_Pc [.ref a] (XPh E K F G h0)) (XQ E (fun v (u : Unit) => ∃ r : Int32, v = .int r) (fun _ H => H = h0)) 0 0 (xA E) := by
  refine x_enter (by decide) (Nat.le_of_ble_eq_true rfl) ?_
  intro p e s m args below meth c Q S hr hlk hnm hQ hP ls hl
  obtain ⟨⟨hz, hK, hT⟩, hh⟩ := hP
  obtain ⟨hx, hb, -, -, -⟩ := id S
  have hS : va_S (xA E) s.heap s.heap [] := va_S.rf
  have hl : lv_has ls 4 [(0, .ref a)] := hl
  refine lv_iconst (v := 0) hx hb dX0_lateOnes_0 (by decide) ?_
  refine lv_istore_n (lv' := [(1, .int 0), (0, .ref a)]) hx hb dX0_lateOnes_1 rfl hl (by decide) rfl (fun ls hl => ?_)
  refine lv_iconst (v := 0) hx hb dX0_lateOnes_2 (by decide) ?_
  refine lv_istore_n (lv' := [(2, .int 0), (1, .int 0), (0, .ref a)]) hx hb dX0_lateOnes_3 rfl hl (by decide) rfl (fun ls hl => ?_)
  have L4 : ∀ (N4 : Nat) (l1_4 : Int32) (l2_4 : Int32) (locs : List Loc) (ls : Array Slot), 0 ≤ l2_4.toInt ∧ l2_4.toInt ≤ 12 → 0 ≤ l1_4.toInt ∧ l1_4.toInt ≤ l2_4.toInt → 100 - l2_4.toInt < ((N4 : Nat) : Int) → TW E K F G s.heap → va_S (xA E) s.heap s.heap locs → lv_has ls 4 [(0, .ref a), (1, .int l1_4), (2, .int l2_4)] → W p l e rm_X0_lateOnes s m args below meth c s.heap locs 0 0 Q (F0 m 4 ls []) := by
    intro N4
    induction N4 with
    | zero =>
      intro l1_4 l2_4 locs ls I4_0 I4_1 hm4
      exact absurd hm4 (z_X0_lateOnes_1 l2_4.toInt I4_0)
    | succ N4 ih4 =>
      intro l1_4 l2_4 locs ls I4_0 I4_1 hm4 hT hS hl
      refine lv_iload_n hx hb dX0_lateOnes_4 rfl (lv_at hl 2 rfl) ?_
      refine lv_bipush (v := 12) hx hb dX0_lateOnes_5 (by decide) ?_
      refine xi_cge (tgt := 37) hx hb (rfl : Int32.toInt l2_4 = l2_4.toInt) ((by decide) : Int32.toInt 12 = (12 : Int)) dX0_lateOnes_7 (by decide) (fun c7 => ?_) (fun c7 => ?_)
      · refine lv_iload_n hx hb dX0_lateOnes_37 rfl (lv_at hl 1 rfl) ?_
        exact x_ri hx hb hr hlk hQ (Nat.le_of_ble_eq_true rfl) (Nat.le_of_ble_eq_true rfl) hS dX0_lateOnes_38 () ⟨_, rfl⟩ hh
      · refine lv_aload_n hx hb dX0_lateOnes_10 rfl (lv_at hl 0 rfl) ?_
        obtain ⟨hk11, hj11⟩ := fkX0_0 hT ha
        refine gX0_0 S hK hT ha kf_X0_11 dX0_lateOnes_11 (fun _ _ => ?_)
        refine lv_iload_n hx hb dX0_lateOnes_14 rfl (lv_at hl 2 rfl) ?_
        refine al_15 S hK hT hk11 (z_X0_lateOnes_2 l2_4.toInt I4_0 c7) dX0_lateOnes_15 (fun hR15 => ?_) (fun q15 hR15 hk15 => ?_)
        · have hR15 : G.2.2.1 (F a 0) (l2_4.toInt).toNat = none := by rw [← (rfl : Int32.toInt l2_4 = l2_4.toInt)]; exact hR15
          refine lv_astore_nN (lv' := [(3, .null), (0, .ref a), (1, .int l1_4), (2, .int l2_4)]) hx hb dX0_lateOnes_16 rfl hl (by decide) rfl (fun ls hl => ?_)
          refine lv_aload_nN hx hb dX0_lateOnes_17 rfl (lv_at hl 0 rfl) ?_
          refine lv_ifnullN (tgt := 31) hx hb dX0_lateOnes_18 (by decide) ?_
          refine xi_iinc (n := 1) (lv' := fun z9 => [(2, .int z9), (3, .null), (0, .ref a), (1, .int l1_4)]) (k := 3) hx hb (rfl : Int32.toInt l2_4 = l2_4.toInt) (by decide) dX0_lateOnes_31 hl rfl (by decide) (fun _ => rfl) (fun x31 ls t31 hl => ?_)
          have e31 : x31.toInt = (l2_4.toInt + 1) := (z_X0_lateOnes_3 l2_4.toInt x31.toInt I4_0 t31)
          have hl : lv_has ls 4 [(2, .int x31), (3, .null), (0, .ref a), (1, .int l1_4)] := hl
          refine lv_goto (tgt := 4) hx hb dX0_lateOnes_34 (by decide) ?_
          exact ih4 l1_4 x31 _ _ (by rw [(e31 : Int32.toInt x31 = (l2_4.toInt + 1))] <;> exact (z_X0_lateOnes_4 l2_4.toInt I4_0 c7)) (by rw [(e31 : Int32.toInt x31 = (l2_4.toInt + 1))] <;> exact (z_X6_newNulls_10 l1_4.toInt l2_4.toInt I4_1)) (by rw [(e31 : Int32.toInt x31 = (l2_4.toInt + 1))] <;> exact (z_X0_lateOnes_6 l2_4.toInt N4 hm4)) hT hS (lv_sub hl [2, 3, 0] rfl)
        · have hR15 : G.2.2.1 (F a 0) (l2_4.toInt).toNat = some q15 := by rw [← (rfl : Int32.toInt l2_4 = l2_4.toInt)]; exact hR15
          refine lv_astore_n (lv' := [(3, .ref q15), (0, .ref a), (1, .int l1_4), (2, .int l2_4)]) hx hb dX0_lateOnes_16 rfl hl (by decide) rfl (fun ls hl => ?_)
          refine lv_aload_n hx hb dX0_lateOnes_17 rfl (lv_at hl 0 rfl) ?_
          refine lv_ifnull hx hb dX0_lateOnes_18 ?_
          refine lv_aload_n hx hb dX0_lateOnes_21 rfl (lv_at hl 0 rfl) ?_
          refine gX7_9 S hK hT hk15 kf_X0_24 dX0_lateOnes_22 (v := (G.1 q15 9)) rfl (fun hz22 => ?_)
          refine xi_zeq (tgt := 31) hx hb (rfl : Int32.toInt (G.1 q15 9) = ((G.1 q15 9).toInt)) dX0_lateOnes_25 (by decide) (fun c25 => ?_) (fun c25 => ?_)
          · refine xi_iinc (n := 1) (lv' := fun z9 => [(2, .int z9), (3, .ref q15), (0, .ref a), (1, .int l1_4)]) (k := 3) hx hb (rfl : Int32.toInt l2_4 = l2_4.toInt) (by decide) dX0_lateOnes_31 hl rfl (by decide) (fun _ => rfl) (fun x31 ls t31 hl => ?_)
            have e31 : x31.toInt = (l2_4.toInt + 1) := (z_X0_lateOnes_3 l2_4.toInt x31.toInt I4_0 t31)
            have hl : lv_has ls 4 [(2, .int x31), (3, .ref q15), (0, .ref a), (1, .int l1_4)] := hl
            refine lv_goto (tgt := 4) hx hb dX0_lateOnes_34 (by decide) ?_
            exact ih4 l1_4 x31 _ _ (by rw [(e31 : Int32.toInt x31 = (l2_4.toInt + 1))] <;> exact (z_X0_lateOnes_4 l2_4.toInt I4_0 c7)) (by rw [(e31 : Int32.toInt x31 = (l2_4.toInt + 1))] <;> exact (z_X6_newNulls_10 l1_4.toInt l2_4.toInt I4_1)) (by rw [(e31 : Int32.toInt x31 = (l2_4.toInt + 1))] <;> exact (z_X0_lateOnes_6 l2_4.toInt N4 hm4)) hT hS (lv_sub hl [2, 3, 0] rfl)
          · refine xi_iinc (n := 1) (lv' := fun z9 => [(1, .int z9), (3, .ref q15), (0, .ref a), (2, .int l2_4)]) (k := 2) hx hb (rfl : Int32.toInt l1_4 = l1_4.toInt) (by decide) dX0_lateOnes_28 hl rfl (by decide) (fun _ => rfl) (fun x28 ls t28 hl => ?_)
            have e28 : x28.toInt = (l1_4.toInt + 1) := (z_X0_lateOnes_11 l1_4.toInt l2_4.toInt x28.toInt I4_1 c7 t28)
            have hl : lv_has ls 4 [(1, .int x28), (3, .ref q15), (0, .ref a), (2, .int l2_4)] := hl
            refine xi_iinc (n := 1) (lv' := fun z9 => [(2, .int z9), (1, .int x28), (3, .ref q15), (0, .ref a)]) (k := 3) hx hb (rfl : Int32.toInt l2_4 = l2_4.toInt) (by decide) dX0_lateOnes_31 hl rfl (by decide) (fun _ => rfl) (fun x31 ls t31 hl => ?_)
            have e31 : x31.toInt = (l2_4.toInt + 1) := (z_X0_lateOnes_3 l2_4.toInt x31.toInt I4_0 t31)
            have hl : lv_has ls 4 [(2, .int x31), (1, .int x28), (3, .ref q15), (0, .ref a)] := hl
            refine lv_goto (tgt := 4) hx hb dX0_lateOnes_34 (by decide) ?_
            exact ih4 x28 x31 _ _ (by rw [(e31 : Int32.toInt x31 = (l2_4.toInt + 1))] <;> exact (z_X0_lateOnes_4 l2_4.toInt I4_0 c7)) (by rw [(e28 : Int32.toInt x28 = (l1_4.toInt + 1)), (e31 : Int32.toInt x31 = (l2_4.toInt + 1))] <;> exact (z_X6_newNulls_22 l1_4.toInt l2_4.toInt I4_1)) (by rw [(e31 : Int32.toInt x31 = (l2_4.toInt + 1))] <;> exact (z_X0_lateOnes_6 l2_4.toInt N4 hm4)) hT hS (lv_sub hl [3, 1, 0] rfl)
  exact L4 4294967297 0 0 _ _ (by decide) (by decide) (by decide) hT hS (lv_sub hl [2, 1, 0] rfl)

theorem z_X10_rows_1 (a0 : Int) : (¬ a0 = 0 ∧ ¬ a0 = 1) ∨ (a0 = 0) ∨ (a0 = 1) := by omega
theorem z_X10_rows_2 (a0 : Int) (a1 : Int) (a2 : Int) (a3 : Int) (h0 : ¬ a1 = 0 ∧ ¬ a1 = 1) : (¬ (0 ≤ a0 ∧ a0 < 3) ∧ (-1 : Int) = -1) ∨ ((0 ≤ a0 ∧ a0 < 3) ∧ ((a1 = 0 ∧ (-1 : Int) = a3) ∨ (a1 = 1 ∧ (-1 : Int) = a2) ∨ (a1 ≠ 0 ∧ a1 ≠ 1 ∧ (-1 : Int) = -1))) := by omega
theorem z_X10_rows_3 (a0 : Int) (a1 : Int) (a2 : Int) (a3 : Int) (a4 : Int) (a5 : Int) (h0 : (a2 = 1 ∧ 0 ≤ a0 ∧ a0 < 3) ∨ (a2 = 0 ∧ (a0 < 0 ∨ 3 ≤ a0))) (h1 : a2 ≠ 0) (h2 : a1 = 0) (h3 : ((0 ≤ a0 ∧ a0 < 3) ∧ a3 = a5) ∨ (¬ (0 ≤ a0 ∧ a0 < 3) ∧ a3 = 0)) : (¬ (0 ≤ a0 ∧ a0 < 3) ∧ a3 = -1) ∨ ((0 ≤ a0 ∧ a0 < 3) ∧ ((a1 = 0 ∧ a3 = a5) ∨ (a1 = 1 ∧ a3 = a4) ∨ (a1 ≠ 0 ∧ a1 ≠ 1 ∧ a3 = -1))) := by omega
theorem z_X10_rows_4 (a0 : Int) (a1 : Int) (a2 : Int) (a3 : Int) (a4 : Int) (a5 : Int) (h0 : (a2 = 1 ∧ 0 ≤ a0 ∧ a0 < 3) ∨ (a2 = 0 ∧ (a0 < 0 ∨ 3 ≤ a0))) (h1 : a2 ≠ 0) (h2 : a1 = 1) (h3 : (0 ≤ a0 ∧ a0 < 3 ∧ a3 = a4) ∨ ((a0 < 0 ∨ 3 ≤ a0) ∧ a3 = 0)) : (¬ (0 ≤ a0 ∧ a0 < 3) ∧ a3 = -1) ∨ ((0 ≤ a0 ∧ a0 < 3) ∧ ((a1 = 0 ∧ a3 = a5) ∨ (a1 = 1 ∧ a3 = a4) ∨ (a1 ≠ 0 ∧ a1 ≠ 1 ∧ a3 = -1))) := by omega
theorem z_X10_rows_5 (a0 : Int) (a1 : Int) (a2 : Int) (a3 : Int) (a4 : Int) (h0 : (a2 = 1 ∧ 0 ≤ a0 ∧ a0 < 3) ∨ (a2 = 0 ∧ (a0 < 0 ∨ 3 ≤ a0))) (h1 : ¬ (a2 ≠ 0)) : (¬ (0 ≤ a0 ∧ a0 < 3) ∧ (-1 : Int) = -1) ∨ ((0 ≤ a0 ∧ a0 < 3) ∧ ((a1 = 0 ∧ (-1 : Int) = a4) ∨ (a1 = 1 ∧ (-1 : Int) = a3) ∨ (a1 ≠ 0 ∧ a1 ≠ 1 ∧ (-1 : Int) = -1))) := by omega
abbrev rm_X10_rows : Room := { frames := 3, cells := 0, slots := 0, locals := 62 }
set_option maxHeartbeats 4000000 in
set_option maxRecDepth 100000 in
theorem c_X10_rows (l : Launch) (E : XE) (K : Nat → Nat) (F : Nat → Nat → Nat) (G : XG) (h0 : Heap) (a : Nat) (p0 : Int32) (p1 : Int32) (ha : K a = 12) (ron : RO (vw (G.2.1 (F (F a 3) 0))) (aI (G.2.1 (F (F a 3) 1)))) : Met l yX10_rows (xw yX10_rows cX10_rows 3 (some .int)) rm_X10_rows (va_Pc [.ref a, .int p0, .int p1] (XPh E K F G h0)) (XQ E (fun v (u : Unit) => ∃ r : Int32, v = .int r ∧ ((¬ (0 ≤ p0.toInt ∧ p0.toInt < 3) ∧ r.toInt = -1) ∨ ((0 ≤ p0.toInt ∧ p0.toInt < 3) ∧ ((p1.toInt = 0 ∧ r.toInt = (szB (aI (G.2.1 (F (F a 3) 1))) (p0.toInt))) ∨ (p1.toInt = 1 ∧ r.toInt = (aI (G.2.1 (F (F a 3) 1)) (p0.toInt))) ∨ (p1.toInt ≠ 0 ∧ p1.toInt ≠ 1 ∧ r.toInt = -1))))) (fun _ H => H = h0)) 0 0 (xA E) := by
  refine x_enter (by decide) (Nat.le_of_ble_eq_true rfl) ?_
  intro p e s m args below meth c Q S hr hlk hnm hQ hP ls hl
  obtain ⟨⟨hz, hK, hT⟩, hh⟩ := hP
  obtain ⟨hx, hb, -, -, -⟩ := id S
  have hS : va_S (xA E) s.heap s.heap [] := va_S.rf
  have hl : lv_has ls 3 [(0, .ref a), (1, .int p0), (2, .int p1)] := hl
  obtain ⟨hk9999, hj9999⟩ := fkX10_3 hT ha
  obtain ⟨hk9999a, hj9999a⟩ := fkX6_0 hT hk9999
  have hj9999b : F (F (F a 3) 0) 99 = 0 := by rw [hj9999a, hj9999]
  obtain ⟨hk9999b, hj9999c⟩ := fkX6_1 hT hk9999
  have hj9999d : F (F (F a 3) 1) 99 = 0 := by rw [hj9999c, hj9999]
  refine lv_iload_n hx hb dX10_rows_0 rfl (lv_at hl 1 rfl) ?_
  refine x_clp (x_runS (As := [.int p0]) (rest := []) S (c_X10_isTable l E K F G s.heap p0) ms_X10_isTable km_X10_179 rfl rfl ⟨Nat.le_of_ble_eq_true rfl, Nat.le_of_ble_eq_true rfl⟩ hK (fun _ => XPh.blind) (fun U hU hW => XPh.at hK hz hS hT hU hW) rfl hl.1 (Nat.le_of_ble_eq_true rfl) dX10_rows_1 ⟨Nat.le_of_ble_eq_true rfl, Nat.le_of_ble_eq_true rfl⟩) hS ?_
  rintro _ _ locs ⟨x1, rfl, b1, t1⟩ hS
  have t1 : (x1.toInt = 1 ∧ 0 ≤ p0.toInt ∧ p0.toInt < 3) ∨ (x1.toInt = 0 ∧ (p0.toInt < 0 ∨ 3 ≤ p0.toInt)) := t1
  refine xi_zne (tgt := 9) hx hb (rfl : Int32.toInt x1 = x1.toInt) dX10_rows_4 (by decide) (fun c4 => ?_) (fun c4 => ?_)
  · refine lv_iload_n hx hb dX10_rows_9 rfl (lv_at hl 2 rfl) ?_
    rcases ((z_X10_rows_1 p1.toInt) : (¬ p1.toInt = 0 ∧ ¬ p1.toInt = 1) ∨ (p1.toInt = 0) ∨ (p1.toInt = 1)) with c10 | c10 | c10
    · refine lv_lookup (off := 44) (tgt := 54) hx hb dX10_rows_10 (by decide) (by first | (simp only [Op.lookupswitch.offset_cons, Op.lookupswitch.offset_nil]; (repeat' split) <;> omega) | (simp [Op.lookupswitch.offset]; (repeat' split) <;> omega) | (simp [Op.lookupswitch.offset]; omega)) (by decide) ?_
      refine lv_iconst (v := (-1)) hx hb dX10_rows_54 (by decide) ?_
      exact x_ri hx hb hr hlk hQ (Nat.le_of_ble_eq_true rfl) (Nat.le_of_ble_eq_true rfl) hS dX10_rows_55 () ⟨_, rfl, (by rw [((by decide) : Int32.toInt (-1) = (-1 : Int))] <;> exact (z_X10_rows_2 p0.toInt p1.toInt (aI (G.2.1 (F (F a 3) 1)) (p0.toInt)) (szB (aI (G.2.1 (F (F a 3) 1))) (p0.toInt)) c10))⟩ hh
    · refine lv_lookup (off := 26) (tgt := 36) hx hb dX10_rows_10 (by decide) (by rw [c10]; rfl) (by decide) ?_
      refine lv_aload_n hx hb dX10_rows_36 rfl (lv_at hl 0 rfl) ?_
      refine gX10_3 S hK hT ha kf_X10_37 dX10_rows_37 (fun _ _ => ?_)
      refine lv_iload_n hx hb dX10_rows_40 rfl (lv_at hl 1 rfl) ?_
      refine x_clp (x_runV (b := (F a 3)) (As := [.int p0]) (rest := []) S (c_X6_size l E K F G s.heap (F a 3) p0 hk9999 (v_X10_rows_41_1 (F := F) a G ron)) mv_X6_size km_X10_269 rfl rfl ⟨Nat.le_of_ble_eq_true rfl, Nat.le_of_ble_eq_true rfl⟩ (rc_8 hK hT hk9999) hK (fun _ => XPh.blind) (fun U hU hW => XPh.at hK hz hS hT hU hW) rfl hl.1 (Nat.le_of_ble_eq_true rfl) dX10_rows_41 ⟨Nat.le_of_ble_eq_true rfl, Nat.le_of_ble_eq_true rfl⟩) hS ?_
      rintro _ _ locs ⟨x41, rfl, t41⟩ hS
      have t41 : (((0 ≤ p0.toInt ∧ p0.toInt < 3) ∧ x41.toInt = (szB (aI (G.2.1 (F (F a 3) 1))) (p0.toInt))) ∨ (¬ (0 ≤ p0.toInt ∧ p0.toInt < 3) ∧ x41.toInt = 0)) ∧ (0 ≤ x41.toInt ∧ x41.toInt ≤ 30) := t41
      exact x_ri hx hb hr hlk hQ (Nat.le_of_ble_eq_true rfl) (Nat.le_of_ble_eq_true rfl) hS dX10_rows_44 () ⟨_, rfl, (z_X10_rows_3 p0.toInt p1.toInt x1.toInt x41.toInt (aI (G.2.1 (F (F a 3) 1)) (p0.toInt)) (szB (aI (G.2.1 (F (F a 3) 1))) (p0.toInt)) t1 c4 c10 (t41).1)⟩ hh
    · refine lv_lookup (off := 35) (tgt := 45) hx hb dX10_rows_10 (by decide) (by rw [c10]; rfl) (by decide) ?_
      refine lv_aload_n hx hb dX10_rows_45 rfl (lv_at hl 0 rfl) ?_
      refine gX10_3 S hK hT ha kf_X10_37 dX10_rows_46 (fun _ _ => ?_)
      refine lv_iload_n hx hb dX10_rows_49 rfl (lv_at hl 1 rfl) ?_
      refine x_clp (x_runV (b := (F a 3)) (As := [.int p0]) (rest := []) S (c_X6_keyBits l E K F G s.heap (F a 3) p0 hk9999) mv_X6_keyBits km_X10_271 rfl rfl ⟨Nat.le_of_ble_eq_true rfl, Nat.le_of_ble_eq_true rfl⟩ (rc_8 hK hT hk9999) hK (fun _ => XPh.blind) (fun U hU hW => XPh.at hK hz hS hT hU hW) rfl hl.1 (Nat.le_of_ble_eq_true rfl) dX10_rows_50 ⟨Nat.le_of_ble_eq_true rfl, Nat.le_of_ble_eq_true rfl⟩) hS ?_
      rintro _ _ locs ⟨x50, rfl, t50⟩ hS
      have t50 : (0 ≤ p0.toInt ∧ p0.toInt < 3 ∧ x50.toInt = (aI (G.2.1 (F (F a 3) 1)) (p0.toInt))) ∨ ((p0.toInt < 0 ∨ 3 ≤ p0.toInt) ∧ x50.toInt = 0) := t50
      exact x_ri hx hb hr hlk hQ (Nat.le_of_ble_eq_true rfl) (Nat.le_of_ble_eq_true rfl) hS dX10_rows_53 () ⟨_, rfl, (z_X10_rows_4 p0.toInt p1.toInt x1.toInt x50.toInt (aI (G.2.1 (F (F a 3) 1)) (p0.toInt)) (szB (aI (G.2.1 (F (F a 3) 1))) (p0.toInt)) t1 c4 c10 t50)⟩ hh
  · refine lv_iconst (v := (-1)) hx hb dX10_rows_7 (by decide) ?_
    exact x_ri hx hb hr hlk hQ (Nat.le_of_ble_eq_true rfl) (Nat.le_of_ble_eq_true rfl) hS dX10_rows_8 () ⟨_, rfl, (by rw [((by decide) : Int32.toInt (-1) = (-1 : Int))] <;> exact (z_X10_rows_5 p0.toInt p1.toInt x1.toInt (aI (G.2.1 (F (F a 3) 1)) (p0.toInt)) (szB (aI (G.2.1 (F (F a 3) 1))) (p0.toInt)) t1 c4))⟩ hh

theorem z_X10_told_1 (a0 : Int) : (a0 < 0 ∨ 9 < a0) ∨ (a0 = 0) ∨ (a0 = 1) ∨ (a0 = 2) ∨ (a0 = 3) ∨ (a0 = 4) ∨ (a0 = 5) ∨ (a0 = 6) ∨ (a0 = 7) ∨ (a0 = 8) ∨ (a0 = 9) := by omega
abbrev rm_X10_told : Room := { frames := 3, cells := 0, slots := 0, locals := 65 }
set_option maxHeartbeats 4000000 in
set_option maxRecDepth 100000 in
theorem c_X10_told (l : Launch) (E : XE) (K : Nat → Nat) (F : Nat → Nat → Nat) (G : XG) (h0 : Heap) (a : Nat) (p0 : Int32) (p1 : Int32) (ha : K a = 12) (w8 : 0 ≤ ((G.1 (F a 8) 6).toInt) ∧ ((G.1 (F a 8) 6).toInt) ≤ 1080) : Met l yX10_told (xw yX10_told cX10_told 4 (some .int)) rm_X10_told (va_Pc [.ref a, .int p0, .int p1] (XPh E K F G h0)) (XQ E (fun v (u : Unit) => ∃ r : Int32, v = .int r ∧ ((((p0.toInt < 0 ∨ 12 ≤ p0.toInt) ∨ G.2.2.1 (F (F a 2) 0) (p0.toInt).toNat = none) ∧ r.toInt = -2147483648) ∨ (∃ q : Nat, ((0 ≤ p0.toInt ∧ p0.toInt < 12) ∧ G.2.2.1 (F (F a 2) 0) (p0.toInt).toNat = some q) ∧ r.toInt = tdC (G.1 q) (cnQ (qL G F (F a 8)) p0.toInt) p1.toInt))) (fun _ H => H = h0)) 0 0 (xA E) := by
  refine x_enter (by decide) (Nat.le_of_ble_eq_true rfl) ?_
  intro p e s m args below meth c Q S hr hlk hnm hQ hP ls hl
  obtain ⟨⟨hz, hK, hT⟩, hh⟩ := hP
  obtain ⟨hx, hb, -, -, -⟩ := id S
  have hS : va_S (xA E) s.heap s.heap [] := va_S.rf
  have hl : lv_has ls 4 [(0, .ref a), (1, .int p0), (2, .int p1)] := hl
  obtain ⟨hk9999, hj9999⟩ := fkX10_2 hT ha
  obtain ⟨hk9999a, hj9999a⟩ := fkX0_0 hT hk9999
  obtain ⟨hk9999b, hj9999b⟩ := fkX10_8 hT ha
  refine lv_aload_n hx hb dX10_told_0 rfl (lv_at hl 0 rfl) ?_
  refine gX10_2 S hK hT ha kf_X10_30 dX10_told_1 (fun _ _ => ?_)
  refine lv_iload_n hx hb dX10_told_4 rfl (lv_at hl 1 rfl) ?_
  refine x_clp (x_runV (b := (F a 2)) (As := [.int p0]) (rest := []) S (c_X0_get l E K F G s.heap (F a 2) p0 hk9999) mv_X0_get km_X10_159 rfl rfl ⟨Nat.le_of_ble_eq_true rfl, Nat.le_of_ble_eq_true rfl⟩ (rc_2 hK hT hk9999) hK (fun _ => XPh.blind) (fun U hU hW => XPh.at hK hz hS hT hU hW) rfl hl.1 (Nat.le_of_ble_eq_true rfl) dX10_told_5 ⟨Nat.le_of_ble_eq_true rfl, Nat.le_of_ble_eq_true rfl⟩) hS ?_
  rintro _ _ locs (⟨rfl, hn5⟩ | ⟨q5, rfl, hk5, ht5, hs5⟩) hS
  · refine lv_astore_nN (lv' := [(3, .null), (0, .ref a), (1, .int p0), (2, .int p1)]) hx hb dX10_told_8 rfl hl (by decide) rfl (fun ls hl => ?_)
    refine lv_aload_nN hx hb dX10_told_9 rfl (lv_at hl 0 rfl) ?_
    refine lv_ifnonnullN hx hb dX10_told_10 ?_
    refine lv_ldcw (v := (-2147483648)) hx hb S.2.2.2.1 (S.2.2.2.2 _ (List.mem_cons_of_mem _ kc_X10_274)) dX10_told_13 ?_
    exact x_ri hx hb hr hlk hQ (Nat.le_of_ble_eq_true rfl) (Nat.le_of_ble_eq_true rfl) hS dX10_told_16 () ⟨_, rfl, (by rw [((by decide) : Int32.toInt (-2147483648) = (-2147483648 : Int))] <;> exact (v_X10_told_16_1 (F := F) a p0 G p1 hn5))⟩ hh
  · have ht5 : 0 ≤ p0.toInt ∧ p0.toInt < 12 := ht5
    refine lv_astore_n (lv' := [(3, .ref q5), (0, .ref a), (1, .int p0), (2, .int p1)]) hx hb dX10_told_8 rfl hl (by decide) rfl (fun ls hl => ?_)
    refine lv_aload_n hx hb dX10_told_9 rfl (lv_at hl 0 rfl) ?_
    refine lv_ifnonnull (tgt := 17) hx hb dX10_told_10 (by decide) ?_
    refine lv_iload_n hx hb dX10_told_17 rfl (lv_at hl 3 rfl) ?_
    rcases ((z_X10_told_1 p1.toInt) : (p1.toInt < 0 ∨ 9 < p1.toInt) ∨ (p1.toInt = 0) ∨ (p1.toInt = 1) ∨ (p1.toInt = 2) ∨ (p1.toInt = 3) ∨ (p1.toInt = 4) ∨ (p1.toInt = 5) ∨ (p1.toInt = 6) ∨ (p1.toInt = 7) ∨ (p1.toInt = 8) ∨ (p1.toInt = 9)) with c18 | c18 | c18 | c18 | c18 | c18 | c18 | c18 | c18 | c18 | c18
    · refine lv_tableOut (tgt := 134) hx hb dX10_told_18 c18 (by decide) ?_
      refine lv_ldcw (v := (-2147483648)) hx hb S.2.2.2.1 (S.2.2.2.2 _ (List.mem_cons_of_mem _ kc_X10_274)) dX10_told_134 ?_
      exact x_ri hx hb hr hlk hQ (Nat.le_of_ble_eq_true rfl) (Nat.le_of_ble_eq_true rfl) hS dX10_told_137 () ⟨_, rfl, (by rw [((by decide) : Int32.toInt (-2147483648) = (-2147483648 : Int))] <;> exact (v_X10_told_137_2 (K := K) (F := F) a q5 G p0 p1 ha hs5 w8 ht5 c18))⟩ hh
    · refine lv_tableIn (off := 54) (tgt := 72) hx hb dX10_told_18 (by rw [c18]; decide) (by rw [c18]; decide) (by rw [c18]; rfl) (by decide) ?_
      refine lv_aload_n hx hb dX10_told_72 rfl (lv_at hl 0 rfl) ?_
      refine gX7_0 S hK hT hk5 kf_X10_140 dX10_told_73 (v := (G.1 q5 0)) rfl (?_)
      exact x_ri hx hb hr hlk hQ (Nat.le_of_ble_eq_true rfl) (Nat.le_of_ble_eq_true rfl) hS dX10_told_76 () ⟨_, rfl, (v_X10_told_76_3 (F := F) a q5 G p0 p1 hs5 ht5 c18)⟩ hh
    · refine lv_tableIn (off := 59) (tgt := 77) hx hb dX10_told_18 (by rw [c18]; decide) (by rw [c18]; decide) (by rw [c18]; rfl) (by decide) ?_
      refine lv_aload_n hx hb dX10_told_77 rfl (lv_at hl 0 rfl) ?_
      refine gX7_2 S hK hT hk5 kf_X10_275 dX10_told_78 (v := (G.1 q5 2)) rfl (?_)
      exact x_ri hx hb hr hlk hQ (Nat.le_of_ble_eq_true rfl) (Nat.le_of_ble_eq_true rfl) hS dX10_told_81 () ⟨_, rfl, (v_X10_told_81_4 (F := F) a q5 G p0 p1 hs5 ht5 c18)⟩ hh
    · refine lv_tableIn (off := 64) (tgt := 82) hx hb dX10_told_18 (by rw [c18]; decide) (by rw [c18]; decide) (by rw [c18]; rfl) (by decide) ?_
      refine lv_aload_n hx hb dX10_told_82 rfl (lv_at hl 0 rfl) ?_
      refine gX7_3 S hK hT hk5 kf_X10_278 dX10_told_83 (v := (G.1 q5 3)) rfl (?_)
      exact x_ri hx hb hr hlk hQ (Nat.le_of_ble_eq_true rfl) (Nat.le_of_ble_eq_true rfl) hS dX10_told_86 () ⟨_, rfl, (v_X10_told_86_5 (F := F) a q5 G p0 p1 hs5 ht5 c18)⟩ hh
    · refine lv_tableIn (off := 69) (tgt := 87) hx hb dX10_told_18 (by rw [c18]; decide) (by rw [c18]; decide) (by rw [c18]; rfl) (by decide) ?_
      refine lv_aload_n hx hb dX10_told_87 rfl (lv_at hl 0 rfl) ?_
      refine gX7_4 S hK hT hk5 kf_X10_281 dX10_told_88 (v := (G.1 q5 4)) rfl (?_)
      exact x_ri hx hb hr hlk hQ (Nat.le_of_ble_eq_true rfl) (Nat.le_of_ble_eq_true rfl) hS dX10_told_91 () ⟨_, rfl, (v_X10_told_91_6 (F := F) a q5 G p0 p1 hs5 ht5 c18)⟩ hh
    · refine lv_tableIn (off := 74) (tgt := 92) hx hb dX10_told_18 (by rw [c18]; decide) (by rw [c18]; decide) (by rw [c18]; rfl) (by decide) ?_
      refine lv_aload_n hx hb dX10_told_92 rfl (lv_at hl 0 rfl) ?_
      refine gX7_5 S hK hT hk5 kf_X10_284 dX10_told_93 (v := (G.1 q5 5)) rfl (?_)
      exact x_ri hx hb hr hlk hQ (Nat.le_of_ble_eq_true rfl) (Nat.le_of_ble_eq_true rfl) hS dX10_told_96 () ⟨_, rfl, (v_X10_told_96_7 (F := F) a q5 G p0 p1 hs5 ht5 c18)⟩ hh
    · refine lv_tableIn (off := 79) (tgt := 97) hx hb dX10_told_18 (by rw [c18]; decide) (by rw [c18]; decide) (by rw [c18]; rfl) (by decide) ?_
      refine lv_aload_n hx hb dX10_told_97 rfl (lv_at hl 0 rfl) ?_
      refine gX7_6 S hK hT hk5 kf_X10_287 dX10_told_98 (v := (G.1 q5 6)) rfl (?_)
      exact x_ri hx hb hr hlk hQ (Nat.le_of_ble_eq_true rfl) (Nat.le_of_ble_eq_true rfl) hS dX10_told_101 () ⟨_, rfl, (v_X10_told_101_8 (F := F) a q5 G p0 p1 hs5 ht5 c18)⟩ hh
    · refine lv_tableIn (off := 84) (tgt := 102) hx hb dX10_told_18 (by rw [c18]; decide) (by rw [c18]; decide) (by rw [c18]; rfl) (by decide) ?_
      refine lv_aload_n hx hb dX10_told_102 rfl (lv_at hl 0 rfl) ?_
      refine gX7_9 S hK hT hk5 kf_X10_170 dX10_told_103 (v := (G.1 q5 9)) rfl (fun hz103 => ?_)
      refine xi_zeq (tgt := 113) hx hb (rfl : Int32.toInt (G.1 q5 9) = ((G.1 q5 9).toInt)) dX10_told_106 (by decide) (fun c106 => ?_) (fun c106 => ?_)
      · refine lv_iconst (v := 0) hx hb dX10_told_113 (by decide) ?_
        exact x_ri hx hb hr hlk hQ (Nat.le_of_ble_eq_true rfl) (Nat.le_of_ble_eq_true rfl) hS dX10_told_114 () ⟨_, rfl, (v_X10_told_114_9 (K := K) (F := F) a q5 G p0 p1 ha hs5 w8 ht5 c18 (xzi hz103) c106)⟩ hh
      · refine lv_iconst (v := 1) hx hb dX10_told_109 (by decide) ?_
        refine lv_goto (tgt := 114) hx hb dX10_told_110 (by decide) ?_
        exact x_ri hx hb hr hlk hQ (Nat.le_of_ble_eq_true rfl) (Nat.le_of_ble_eq_true rfl) hS dX10_told_114 () ⟨_, rfl, (v_X10_told_114_10 (K := K) (F := F) a q5 G p0 p1 ha hs5 w8 ht5 c18 (xzi hz103) c106)⟩ hh
    · refine lv_tableIn (off := 97) (tgt := 115) hx hb dX10_told_18 (by rw [c18]; decide) (by rw [c18]; decide) (by rw [c18]; rfl) (by decide) ?_
      refine lv_aload_n hx hb dX10_told_115 rfl (lv_at hl 0 rfl) ?_
      refine gX7_8 S hK hT hk5 kf_X10_290 dX10_told_116 (v := (G.1 q5 8)) rfl (?_)
      exact x_ri hx hb hr hlk hQ (Nat.le_of_ble_eq_true rfl) (Nat.le_of_ble_eq_true rfl) hS dX10_told_119 () ⟨_, rfl, (v_X10_told_119_11 (F := F) a q5 G p0 p1 hs5 ht5 c18)⟩ hh
    · refine lv_tableIn (off := 102) (tgt := 120) hx hb dX10_told_18 (by rw [c18]; decide) (by rw [c18]; decide) (by rw [c18]; rfl) (by decide) ?_
      refine lv_aload_n hx hb dX10_told_120 rfl (lv_at hl 0 rfl) ?_
      refine gX7_7 S hK hT hk5 kf_X10_293 dX10_told_121 (v := (G.1 q5 7)) rfl (?_)
      exact x_ri hx hb hr hlk hQ (Nat.le_of_ble_eq_true rfl) (Nat.le_of_ble_eq_true rfl) hS dX10_told_124 () ⟨_, rfl, (v_X10_told_124_12 (F := F) a q5 G p0 p1 hs5 ht5 c18)⟩ hh
    · refine lv_tableIn (off := 107) (tgt := 125) hx hb dX10_told_18 (by rw [c18]; decide) (by rw [c18]; decide) (by rw [c18]; rfl) (by decide) ?_
      refine lv_aload_n hx hb dX10_told_125 rfl (lv_at hl 1 rfl) ?_
      refine gX10_8 S hK hT ha kf_X10_57 dX10_told_126 (fun _ _ => ?_)
      refine lv_iload_n hx hb dX10_told_129 rfl (lv_at hl 2 rfl) ?_
      refine x_clp (x_runV (b := (F a 8)) (As := [.int p0]) (rest := []) S (c_X4_ofRule l E K F G s.heap (F a 8) p0 hk9999b (w8)) mv_X4_ofRule km_X10_296 rfl rfl ⟨Nat.le_of_ble_eq_true rfl, Nat.le_of_ble_eq_true rfl⟩ (rc_6 hK hT hk9999b) hK (fun _ => XPh.blind) (fun U hU hW => XPh.at hK hz hS hT hU hW) rfl hl.1 (Nat.le_of_ble_eq_true rfl) dX10_told_130 ⟨Nat.le_of_ble_eq_true rfl, Nat.le_of_ble_eq_true rfl⟩) hS ?_
      rintro _ _ locs ⟨x130, rfl, t130⟩ hS
      obtain ⟨hk130, hj130⟩ := fkX4_0 hT hk9999b
      have hj130a : F (F (F a 8) 0) 99 = 10 * 0 + 0 := by rw [hj130, hj9999b]
      have t130 : x130.toInt = (hv (aI (G.2.1 (F (F a 8) 0))) 0 (p0.toInt) ((G.1 (F a 8) 6).toInt)) := t130
      exact x_ri hx hb hr hlk hQ (Nat.le_of_ble_eq_true rfl) (Nat.le_of_ble_eq_true rfl) hS dX10_told_133 () ⟨_, rfl, (by rw [(t130 : Int32.toInt x130 = (hv (aI (G.2.1 (F (F a 8) 0))) 0 (p0.toInt) ((G.1 (F a 8) 6).toInt)))] <;> exact (v_X10_told_133_13 (F := F) a q5 G p0 p1 hs5 ht5 c18))⟩ hh

abbrev rm_X10_group : Room := { frames := 4, cells := 0, slots := 0, locals := 86 }
set_option maxHeartbeats 4000000 in
set_option maxRecDepth 100000 in
theorem c_X10_group (l : Launch) (E : XE) (K : Nat → Nat) (F : Nat → Nat → Nat) (G : XG) (h0 : Heap) (a : Nat) (p0 : Int32) (p1 : Int32) (ha : K a = 12) (w8 : 0 ≤ ((G.1 (F a 8) 6).toInt) ∧ ((G.1 (F a 8) 6).toInt) ≤ 1080) : Met l yX10_group (xw yX10_group cX10_group 5 (some .int)) rm_X10_group (va_Pc [.ref a, .int p0, .int p1] (XPh E K F G h0)) (XQ E (fun v (u : Unit) => ∃ r : Int32, v = .int r ∧ (((p1.toInt < 0 ∨ 1 < p1.toInt) ∧ r.toInt = -1) ∨ ((0 ≤ p1.toInt ∧ p1.toInt ≤ 1) ∧ GrC (aI (G.2.1 (F (F a 8) 0))) ((G.1 (F a 8) 6).toInt) p0.toInt p1.toInt r.toInt))) (fun _ H => H = h0)) 0 0 (xA E) := by
  refine x_enter (by decide) (Nat.le_of_ble_eq_true rfl) ?_
  intro p e s m args below meth c Q S hr hlk hnm hQ hP ls hl
  obtain ⟨⟨hz, hK, hT⟩, hh⟩ := hP
  obtain ⟨hx, hb, -, -, -⟩ := id S
  have hS : va_S (xA E) s.heap s.heap [] := va_S.rf
  have hl : lv_has ls 5 [(0, .ref a), (1, .int p0), (2, .int p1)] := hl
  obtain ⟨hk9999, hj9999⟩ := fkX10_8 hT ha
  obtain ⟨hk9999a, hj9999a⟩ := fkX4_0 hT hk9999
  have hj9999b : F (F (F a 8) 0) 99 = 10 * 0 + 0 := by rw [hj9999a, hj9999]
  refine lv_iload_n hx hb dX10_group_0 rfl (lv_at hl 2 rfl) ?_
  refine xi_zeq (tgt := 11) hx hb (rfl : Int32.toInt p1 = p1.toInt) dX10_group_1 (by decide) (fun c1 => ?_) (fun c1 => ?_)
  · refine lv_iload_n hx hb dX10_group_11 rfl (lv_at hl 1 rfl) ?_
    refine lv_iconst (v := (-1)) hx hb dX10_group_12 (by decide) ?_
    refine xi_cne (tgt := 24) hx hb (rfl : Int32.toInt p0 = p0.toInt) ((by decide) : Int32.toInt (-1) = (-1 : Int)) dX10_group_13 (by decide) (fun c13 => ?_) (fun c13 => ?_)
    · refine lv_aload_n hx hb dX10_group_24 rfl (lv_at hl 0 rfl) ?_
      refine gX10_8 S hK hT ha kf_X10_57 dX10_group_25 (fun _ _ => ?_)
      refine lv_iload_n hx hb dX10_group_28 rfl (lv_at hl 1 rfl) ?_
      refine x_clp (x_runV (b := (F a 8)) (As := [.int p0]) (rest := []) S (c_X4_groupStart l E K F G s.heap (F a 8) p0 hk9999 (w8)) mv_X4_groupStart km_X10_315 rfl rfl ⟨Nat.le_of_ble_eq_true rfl, Nat.le_of_ble_eq_true rfl⟩ (rc_6 hK hT hk9999) hK (fun _ => XPh.blind) (fun U hU hW => XPh.at hK hz hS hT hU hW) rfl hl.1 (Nat.le_of_ble_eq_true rfl) dX10_group_29 ⟨Nat.le_of_ble_eq_true rfl, Nat.le_of_ble_eq_true rfl⟩) hS ?_
      rintro _ _ locs ⟨x29, rfl, t29⟩ hS
      have t29 : (x29.toInt = -1 ∧ (p0.toInt < 0 ∨ (stF (aI (G.2.1 (F (F a 8) 0))) ((G.1 (F a 8) 6).toInt)) ≤ p0.toInt)) ∨ ((0 ≤ x29.toInt ∧ x29.toInt < ((G.1 (F a 8) 6).toInt)) ∧ (x29.toInt = 0 ∨ (aI (G.2.1 (F (F a 8) 0)) (x29.toInt)) ≠ (aI (G.2.1 (F (F a 8) 0)) (x29.toInt - 1))) ∧ (stF (aI (G.2.1 (F (F a 8) 0))) (x29.toInt)) = p0.toInt) := t29
      refine lv_istore_n (lv' := [(3, .int x29), (0, .ref a), (1, .int p0), (2, .int p1)]) hx hb dX10_group_32 rfl hl (by decide) rfl (fun ls hl => ?_)
      refine lv_iload_n hx hb dX10_group_33 rfl (lv_at hl 0 rfl) ?_
      refine lv_iconst (v := (-1)) hx hb dX10_group_34 (by decide) ?_
      refine xi_cne (tgt := 40) hx hb (rfl : Int32.toInt x29 = x29.toInt) ((by decide) : Int32.toInt (-1) = (-1 : Int)) dX10_group_35 (by decide) (fun c35 => ?_) (fun c35 => ?_)
      · refine lv_aload_n hx hb dX10_group_40 rfl (lv_at hl 1 rfl) ?_
        refine gX10_8 S hK hT ha kf_X10_57 dX10_group_41 (fun _ _ => ?_)
        refine lv_iload_n hx hb dX10_group_44 rfl (lv_at hl 0 rfl) ?_
        refine x_clp (x_runV (b := (F a 8)) (As := [.int x29]) (rest := []) S (c_X4_number l E K F G s.heap (F a 8) x29 hk9999) mv_X4_number km_X10_301 rfl rfl ⟨Nat.le_of_ble_eq_true rfl, Nat.le_of_ble_eq_true rfl⟩ (rc_6 hK hT hk9999) hK (fun _ => XPh.blind) (fun U hU hW => XPh.at hK hz hS hT hU hW) rfl hl.1 (Nat.le_of_ble_eq_true rfl) dX10_group_45 ⟨Nat.le_of_ble_eq_true rfl, Nat.le_of_ble_eq_true rfl⟩) hS ?_
        rintro _ _ locs ⟨x45, rfl, t45⟩ hS
        have t45 : ((0 ≤ x29.toInt ∧ x29.toInt < ((G.1 (F a 8) 6).toInt) ∧ x29.toInt < 1080) ∧ x45.toInt = (aI (G.2.1 (F (F a 8) 0)) (x29.toInt))) ∨ (¬ (0 ≤ x29.toInt ∧ x29.toInt < ((G.1 (F a 8) 6).toInt) ∧ x29.toInt < 1080) ∧ x45.toInt = -1) := t45
        refine lv_istore (lv' := [(4, .int x45), (3, .int x29), (0, .ref a), (1, .int p0), (2, .int p1)]) hx hb dX10_group_48 hl (by decide) rfl (fun ls hl => ?_)
        refine lv_iload_n hx hb dX10_group_50 rfl (lv_at hl 4 rfl) ?_
        refine xi_zne (tgt := 59) hx hb (rfl : Int32.toInt p1 = p1.toInt) dX10_group_51 (by decide) (fun c51 => ?_) (fun c51 => ?_)
        · refine lv_aload_n hx hb dX10_group_59 rfl (lv_at hl 2 rfl) ?_
          refine gX10_8 S hK hT ha kf_X10_57 dX10_group_60 (fun _ _ => ?_)
          refine lv_iload hx hb dX10_group_63 (lv_at hl 0 rfl) ?_
          refine x_clp (x_runV (b := (F a 8)) (As := [.int x45]) (rest := []) S (c_X4_ofRule l E K F G s.heap (F a 8) x45 hk9999 (w8)) mv_X4_ofRule km_X10_296 rfl rfl ⟨Nat.le_of_ble_eq_true rfl, Nat.le_of_ble_eq_true rfl⟩ (rc_6 hK hT hk9999) hK (fun _ => XPh.blind) (fun U hU hW => XPh.at hK hz hS hT hU hW) rfl hl.1 (Nat.le_of_ble_eq_true rfl) dX10_group_65 ⟨Nat.le_of_ble_eq_true rfl, Nat.le_of_ble_eq_true rfl⟩) hS ?_
          rintro _ _ locs ⟨x65, rfl, t65⟩ hS
          have t65 : x65.toInt = (hv (aI (G.2.1 (F (F a 8) 0))) 0 (x45.toInt) ((G.1 (F a 8) 6).toInt)) := t65
          exact x_ri hx hb hr hlk hQ (Nat.le_of_ble_eq_true rfl) (Nat.le_of_ble_eq_true rfl) hS dX10_group_68 () ⟨_, rfl, (by rw [(t65 : Int32.toInt x65 = (hv (aI (G.2.1 (F (F a 8) 0))) 0 (x45.toInt) ((G.1 (F a 8) 6).toInt)))] <;> exact (v_X10_group_68_1 (K := K) (F := F) a G x45 p1 p0 x29 ha w8 c1 c13 t29 c35 t45 c51))⟩ hh
        · refine lv_iload hx hb dX10_group_54 (lv_at hl 0 rfl) ?_
          refine lv_goto (tgt := 68) hx hb dX10_group_56 (by decide) ?_
          exact x_ri hx hb hr hlk hQ (Nat.le_of_ble_eq_true rfl) (Nat.le_of_ble_eq_true rfl) hS dX10_group_68 () ⟨_, rfl, (v_X10_group_68_2 (K := K) (F := F) a G p1 p0 x29 x45 ha w8 c1 c13 t29 c35 t45 c51)⟩ hh
      · refine lv_iconst (v := (-1)) hx hb dX10_group_38 (by decide) ?_
        exact x_ri hx hb hr hlk hQ (Nat.le_of_ble_eq_true rfl) (Nat.le_of_ble_eq_true rfl) hS dX10_group_39 () ⟨_, rfl, (by rw [((by decide) : Int32.toInt (-1) = (-1 : Int))] <;> exact (v_X10_group_39_3 (K := K) (F := F) a G p1 p0 x29 ha w8 c1 c13 t29 c35))⟩ hh
    · refine lv_aload_n hx hb dX10_group_16 rfl (lv_at hl 0 rfl) ?_
      refine gX10_8 S hK hT ha kf_X10_57 dX10_group_17 (fun _ _ => ?_)
      refine x_clp (x_runV (b := (F a 8)) (As := []) (rest := []) S (c_X4_groups l E K F G s.heap (F a 8) hk9999 (w8)) mv_X4_groups km_X10_312 rfl rfl ⟨Nat.le_of_ble_eq_true rfl, Nat.le_of_ble_eq_true rfl⟩ (rc_6 hK hT hk9999) hK (fun _ => XPh.blind) (fun U hU hW => XPh.at hK hz hS hT hU hW) rfl hl.1 (Nat.le_of_ble_eq_true rfl) dX10_group_20 ⟨Nat.le_of_ble_eq_true rfl, Nat.le_of_ble_eq_true rfl⟩) hS ?_
      rintro _ _ locs ⟨x20, rfl, t20⟩ hS
      have t20 : x20.toInt = (stF (aI (G.2.1 (F (F a 8) 0))) ((G.1 (F a 8) 6).toInt)) := t20
      exact x_ri hx hb hr hlk hQ (Nat.le_of_ble_eq_true rfl) (Nat.le_of_ble_eq_true rfl) hS dX10_group_23 () ⟨_, rfl, (by rw [(t20 : Int32.toInt x20 = (stF (aI (G.2.1 (F (F a 8) 0))) ((G.1 (F a 8) 6).toInt)))] <;> exact (v_X10_group_23_4 (K := K) (F := F) a G p1 p0 ha w8 c1 c13))⟩ hh
  · refine lv_iload_n hx hb dX10_group_4 rfl (lv_at hl 2 rfl) ?_
    refine lv_iconst (v := 1) hx hb dX10_group_5 (by decide) ?_
    refine xi_ceq (tgt := 11) hx hb (rfl : Int32.toInt p1 = p1.toInt) ((by decide) : Int32.toInt 1 = (1 : Int)) dX10_group_6 (by decide) (fun c6 => ?_) (fun c6 => ?_)
    · refine lv_iload_n hx hb dX10_group_11 rfl (lv_at hl 1 rfl) ?_
      refine lv_iconst (v := (-1)) hx hb dX10_group_12 (by decide) ?_
      refine xi_cne (tgt := 24) hx hb (rfl : Int32.toInt p0 = p0.toInt) ((by decide) : Int32.toInt (-1) = (-1 : Int)) dX10_group_13 (by decide) (fun c13 => ?_) (fun c13 => ?_)
      · refine lv_aload_n hx hb dX10_group_24 rfl (lv_at hl 0 rfl) ?_
        refine gX10_8 S hK hT ha kf_X10_57 dX10_group_25 (fun _ _ => ?_)
        refine lv_iload_n hx hb dX10_group_28 rfl (lv_at hl 1 rfl) ?_
        refine x_clp (x_runV (b := (F a 8)) (As := [.int p0]) (rest := []) S (c_X4_groupStart l E K F G s.heap (F a 8) p0 hk9999 (w8)) mv_X4_groupStart km_X10_315 rfl rfl ⟨Nat.le_of_ble_eq_true rfl, Nat.le_of_ble_eq_true rfl⟩ (rc_6 hK hT hk9999) hK (fun _ => XPh.blind) (fun U hU hW => XPh.at hK hz hS hT hU hW) rfl hl.1 (Nat.le_of_ble_eq_true rfl) dX10_group_29 ⟨Nat.le_of_ble_eq_true rfl, Nat.le_of_ble_eq_true rfl⟩) hS ?_
        rintro _ _ locs ⟨x29, rfl, t29⟩ hS
        have t29 : (x29.toInt = -1 ∧ (p0.toInt < 0 ∨ (stF (aI (G.2.1 (F (F a 8) 0))) ((G.1 (F a 8) 6).toInt)) ≤ p0.toInt)) ∨ ((0 ≤ x29.toInt ∧ x29.toInt < ((G.1 (F a 8) 6).toInt)) ∧ (x29.toInt = 0 ∨ (aI (G.2.1 (F (F a 8) 0)) (x29.toInt)) ≠ (aI (G.2.1 (F (F a 8) 0)) (x29.toInt - 1))) ∧ (stF (aI (G.2.1 (F (F a 8) 0))) (x29.toInt)) = p0.toInt) := t29
        refine lv_istore_n (lv' := [(3, .int x29), (0, .ref a), (1, .int p0), (2, .int p1)]) hx hb dX10_group_32 rfl hl (by decide) rfl (fun ls hl => ?_)
        refine lv_iload_n hx hb dX10_group_33 rfl (lv_at hl 0 rfl) ?_
        refine lv_iconst (v := (-1)) hx hb dX10_group_34 (by decide) ?_
        refine xi_cne (tgt := 40) hx hb (rfl : Int32.toInt x29 = x29.toInt) ((by decide) : Int32.toInt (-1) = (-1 : Int)) dX10_group_35 (by decide) (fun c35 => ?_) (fun c35 => ?_)
        · refine lv_aload_n hx hb dX10_group_40 rfl (lv_at hl 1 rfl) ?_
          refine gX10_8 S hK hT ha kf_X10_57 dX10_group_41 (fun _ _ => ?_)
          refine lv_iload_n hx hb dX10_group_44 rfl (lv_at hl 0 rfl) ?_
          refine x_clp (x_runV (b := (F a 8)) (As := [.int x29]) (rest := []) S (c_X4_number l E K F G s.heap (F a 8) x29 hk9999) mv_X4_number km_X10_301 rfl rfl ⟨Nat.le_of_ble_eq_true rfl, Nat.le_of_ble_eq_true rfl⟩ (rc_6 hK hT hk9999) hK (fun _ => XPh.blind) (fun U hU hW => XPh.at hK hz hS hT hU hW) rfl hl.1 (Nat.le_of_ble_eq_true rfl) dX10_group_45 ⟨Nat.le_of_ble_eq_true rfl, Nat.le_of_ble_eq_true rfl⟩) hS ?_
          rintro _ _ locs ⟨x45, rfl, t45⟩ hS
          have t45 : ((0 ≤ x29.toInt ∧ x29.toInt < ((G.1 (F a 8) 6).toInt) ∧ x29.toInt < 1080) ∧ x45.toInt = (aI (G.2.1 (F (F a 8) 0)) (x29.toInt))) ∨ (¬ (0 ≤ x29.toInt ∧ x29.toInt < ((G.1 (F a 8) 6).toInt) ∧ x29.toInt < 1080) ∧ x45.toInt = -1) := t45
          refine lv_istore (lv' := [(4, .int x45), (3, .int x29), (0, .ref a), (1, .int p0), (2, .int p1)]) hx hb dX10_group_48 hl (by decide) rfl (fun ls hl => ?_)
          refine lv_iload_n hx hb dX10_group_50 rfl (lv_at hl 4 rfl) ?_
          refine xi_zne (tgt := 59) hx hb (rfl : Int32.toInt p1 = p1.toInt) dX10_group_51 (by decide) (fun c51 => ?_) (fun c51 => ?_)
          · refine lv_aload_n hx hb dX10_group_59 rfl (lv_at hl 2 rfl) ?_
            refine gX10_8 S hK hT ha kf_X10_57 dX10_group_60 (fun _ _ => ?_)
            refine lv_iload hx hb dX10_group_63 (lv_at hl 0 rfl) ?_
            refine x_clp (x_runV (b := (F a 8)) (As := [.int x45]) (rest := []) S (c_X4_ofRule l E K F G s.heap (F a 8) x45 hk9999 (w8)) mv_X4_ofRule km_X10_296 rfl rfl ⟨Nat.le_of_ble_eq_true rfl, Nat.le_of_ble_eq_true rfl⟩ (rc_6 hK hT hk9999) hK (fun _ => XPh.blind) (fun U hU hW => XPh.at hK hz hS hT hU hW) rfl hl.1 (Nat.le_of_ble_eq_true rfl) dX10_group_65 ⟨Nat.le_of_ble_eq_true rfl, Nat.le_of_ble_eq_true rfl⟩) hS ?_
            rintro _ _ locs ⟨x65, rfl, t65⟩ hS
            have t65 : x65.toInt = (hv (aI (G.2.1 (F (F a 8) 0))) 0 (x45.toInt) ((G.1 (F a 8) 6).toInt)) := t65
            exact x_ri hx hb hr hlk hQ (Nat.le_of_ble_eq_true rfl) (Nat.le_of_ble_eq_true rfl) hS dX10_group_68 () ⟨_, rfl, (by rw [(t65 : Int32.toInt x65 = (hv (aI (G.2.1 (F (F a 8) 0))) 0 (x45.toInt) ((G.1 (F a 8) 6).toInt)))] <;> exact (v_X10_group_68_5 (K := K) (F := F) a G x45 p1 p0 x29 ha w8 c1 c6 c13 t29 c35 t45 c51))⟩ hh
          · refine lv_iload hx hb dX10_group_54 (lv_at hl 0 rfl) ?_
            refine lv_goto (tgt := 68) hx hb dX10_group_56 (by decide) ?_
            exact x_ri hx hb hr hlk hQ (Nat.le_of_ble_eq_true rfl) (Nat.le_of_ble_eq_true rfl) hS dX10_group_68 () ⟨_, rfl, (v_X10_group_68_6 (K := K) (F := F) a G p1 p0 x29 x45 ha w8 c1 c6 c13 t29 c35 t45 c51)⟩ hh
        · refine lv_iconst (v := (-1)) hx hb dX10_group_38 (by decide) ?_
          exact x_ri hx hb hr hlk hQ (Nat.le_of_ble_eq_true rfl) (Nat.le_of_ble_eq_true rfl) hS dX10_group_39 () ⟨_, rfl, (by rw [((by decide) : Int32.toInt (-1) = (-1 : Int))] <;> exact (v_X10_group_39_7 (K := K) (F := F) a G p1 p0 x29 ha w8 c1 c6 c13 t29 c35))⟩ hh
      · refine lv_aload_n hx hb dX10_group_16 rfl (lv_at hl 0 rfl) ?_
        refine gX10_8 S hK hT ha kf_X10_57 dX10_group_17 (fun _ _ => ?_)
        refine x_clp (x_runV (b := (F a 8)) (As := []) (rest := []) S (c_X4_groups l E K F G s.heap (F a 8) hk9999 (w8)) mv_X4_groups km_X10_312 rfl rfl ⟨Nat.le_of_ble_eq_true rfl, Nat.le_of_ble_eq_true rfl⟩ (rc_6 hK hT hk9999) hK (fun _ => XPh.blind) (fun U hU hW => XPh.at hK hz hS hT hU hW) rfl hl.1 (Nat.le_of_ble_eq_true rfl) dX10_group_20 ⟨Nat.le_of_ble_eq_true rfl, Nat.le_of_ble_eq_true rfl⟩) hS ?_
        rintro _ _ locs ⟨x20, rfl, t20⟩ hS
        have t20 : x20.toInt = (stF (aI (G.2.1 (F (F a 8) 0))) ((G.1 (F a 8) 6).toInt)) := t20
        exact x_ri hx hb hr hlk hQ (Nat.le_of_ble_eq_true rfl) (Nat.le_of_ble_eq_true rfl) hS dX10_group_23 () ⟨_, rfl, (by rw [(t20 : Int32.toInt x20 = (stF (aI (G.2.1 (F (F a 8) 0))) ((G.1 (F a 8) 6).toInt)))] <;> exact (v_X10_group_23_8 (K := K) (F := F) a G p1 p0 ha w8 c1 c6 c13))⟩ hh
    · refine lv_iconst (v := (-1)) hx hb dX10_group_9 (by decide) ?_
      exact x_ri hx hb hr hlk hQ (Nat.le_of_ble_eq_true rfl) (Nat.le_of_ble_eq_true rfl) hS dX10_group_10 () ⟨_, rfl, (by rw [((by decide) : Int32.toInt (-1) = (-1 : Int))] <;> exact (v_X10_group_10_9 (K := K) (F := F) a G p1 p0 ha w8 c1 c6))⟩ hh

abbrev rm_X10_asked : Room := { frames := 2, cells := 0, slots := 0, locals := 42 }
set_option maxHeartbeats 4000000 in
set_option maxRecDepth 100000 in
theorem c_X10_asked (l : Launch) (E : XE) (K : Nat → Nat) (F : Nat → Nat → Nat) (G : XG) (h0 : Heap) (a : Nat) (p0 : Int32) (p1 : Int32) (ha : K a = 12) : Met l yX10_asked (xw yX10_asked cX10_asked 3 (some .int)) rm_X10_asked (va_Pc [.ref a, .int p0, .int p1] (XPh E K F G h0)) (XQ E (fun v (u : Unit) => ∃ r : Int32, v = .int r) (fun _ H => H = h0)) 0 0 (xA E) := by
  refine x_enter (by decide) (Nat.le_of_ble_eq_true rfl) ?_
  intro p e s m args below meth c Q S hr hlk hnm hQ hP ls hl
  obtain ⟨⟨hz, hK, hT⟩, hh⟩ := hP
  obtain ⟨hx, hb, -, -, -⟩ := id S
  have hS : va_S (xA E) s.heap s.heap [] := va_S.rf
  have hl : lv_has ls 3 [(0, .ref a), (1, .int p0), (2, .int p1)] := hl
  refine lv_iload_n hx hb dX10_asked_0 rfl (lv_at hl 2 rfl) ?_
  refine xi_zlt (tgt := 9) hx hb (rfl : Int32.toInt p1 = p1.toInt) dX10_asked_1 (by decide) (fun c1 => ?_) (fun c1 => ?_)
  · refine lv_iconst (v := (-1)) hx hb dX10_asked_9 (by decide) ?_
    exact x_ri hx hb hr hlk hQ (Nat.le_of_ble_eq_true rfl) (Nat.le_of_ble_eq_true rfl) hS dX10_asked_10 () ⟨_, rfl⟩ hh
  · refine lv_iload_n hx hb dX10_asked_4 rfl (lv_at hl 2 rfl) ?_
    refine lv_iconst (v := 2) hx hb dX10_asked_5 (by decide) ?_
    refine xi_cle (tgt := 11) hx hb (rfl : Int32.toInt p1 = p1.toInt) ((by decide) : Int32.toInt 2 = (2 : Int)) dX10_asked_6 (by decide) (fun c6 => ?_) (fun c6 => ?_)
    · refine lv_iload_n hx hb dX10_asked_11 rfl (lv_at hl 1 rfl) ?_
      refine lv_iconst (v := (-1)) hx hb dX10_asked_12 (by decide) ?_
      refine xi_cne (tgt := 24) hx hb (rfl : Int32.toInt p0 = p0.toInt) ((by decide) : Int32.toInt (-1) = (-1 : Int)) dX10_asked_13 (by decide) (fun c13 => ?_) (fun c13 => ?_)
      · refine lv_iload_n hx hb dX10_asked_24 rfl (lv_at hl 1 rfl) ?_
        refine xi_zlt (tgt := 39) hx hb (rfl : Int32.toInt p0 = p0.toInt) dX10_asked_25 (by decide) (fun c25 => ?_) (fun c25 => ?_)
        · refine lv_iconst (v := (-1)) hx hb dX10_asked_39 (by decide) ?_
          exact x_ri hx hb hr hlk hQ (Nat.le_of_ble_eq_true rfl) (Nat.le_of_ble_eq_true rfl) hS dX10_asked_40 () ⟨_, rfl⟩ hh
        · refine lv_iload_n hx hb dX10_asked_28 rfl (lv_at hl 1 rfl) ?_
          refine lv_aload_n hx hb dX10_asked_29 rfl (lv_at hl 0 rfl) ?_
          obtain ⟨hk30, hj30⟩ := fkX10_10 hT ha
          refine gX10_10 S hK hT ha kf_X10_64 dX10_asked_30 (fun _ _ => ?_)
          refine x_clp (x_runV (b := (F a 10)) (As := []) (rest := [.int p0]) S (c_X4_size l E K F G s.heap (F a 10) hk30) mv_X4_size km_X10_232 rfl rfl ⟨Nat.le_of_ble_eq_true rfl, Nat.le_of_ble_eq_true rfl⟩ (rc_6 hK hT hk30) hK (fun _ => XPh.blind) (fun U hU hW => XPh.at hK hz hS hT hU hW) rfl hl.1 (Nat.le_of_ble_eq_true rfl) dX10_asked_33 ⟨Nat.le_of_ble_eq_true rfl, Nat.le_of_ble_eq_true rfl⟩) hS ?_
          rintro _ _ locs ⟨x33, rfl, t33⟩ hS
          have t33 : x33.toInt = ((G.1 (F a 10) 6).toInt) := t33
          refine xi_clt (tgt := 41) hx hb (rfl : Int32.toInt p0 = p0.toInt) (t33 : Int32.toInt x33 = ((G.1 (F a 10) 6).toInt)) dX10_asked_36 (by decide) (fun c36 => ?_) (fun c36 => ?_)
          · refine lv_iload_n hx hb dX10_asked_41 rfl (lv_at hl 2 rfl) ?_
            rcases ((z_X10_rows_1 p1.toInt) : (¬ p1.toInt = 0 ∧ ¬ p1.toInt = 1) ∨ (p1.toInt = 0) ∨ (p1.toInt = 1)) with c42 | c42 | c42
            · refine lv_lookup (off := 44) (tgt := 86) hx hb dX10_asked_42 (by decide) (by first | (simp only [Op.lookupswitch.offset_cons, Op.lookupswitch.offset_nil]; (repeat' split) <;> omega) | (simp [Op.lookupswitch.offset]; (repeat' split) <;> omega) | (simp [Op.lookupswitch.offset]; omega)) (by decide) ?_
              refine lv_aload_n hx hb dX10_asked_86 rfl (lv_at hl 0 rfl) ?_
              refine gX10_10 S hK hT ha kf_X10_64 dX10_asked_87 (fun _ _ => ?_)
              refine lv_iload_n hx hb dX10_asked_90 rfl (lv_at hl 1 rfl) ?_
              refine x_clp (x_runV (b := (F a 10)) (As := [.int p0]) (rest := []) S (c_X4_fails l E K F G s.heap (F a 10) p0 hk30) mv_X4_fails km_X10_309 rfl rfl ⟨Nat.le_of_ble_eq_true rfl, Nat.le_of_ble_eq_true rfl⟩ (rc_6 hK hT hk30) hK (fun _ => XPh.blind) (fun U hU hW => XPh.at hK hz hS hT hU hW) rfl hl.1 (Nat.le_of_ble_eq_true rfl) dX10_asked_91 ⟨Nat.le_of_ble_eq_true rfl, Nat.le_of_ble_eq_true rfl⟩) hS ?_
              rintro _ _ locs ⟨x91, rfl, b91, t91⟩ hS
              obtain ⟨hk91, hj91⟩ := fkX4_5 hT hk30
              have hj91a : F (F (F a 10) 5) 99 = 10 * 2 + 5 := by rw [hj91, hj30]
              have t91 : ((0 ≤ p0.toInt ∧ p0.toInt < ((G.1 (F a 10) 6).toInt) ∧ p0.toInt < 1080) ∧ x91.toInt = (aI (G.2.1 (F (F a 10) 5)) (p0.toInt))) ∨ (¬ (0 ≤ p0.toInt ∧ p0.toInt < ((G.1 (F a 10) 6).toInt) ∧ p0.toInt < 1080) ∧ x91.toInt = 0) := t91
              refine xi_zeq (tgt := 101) hx hb (rfl : Int32.toInt x91 = x91.toInt) dX10_asked_94 (by decide) (fun c94 => ?_) (fun c94 => ?_)
              · refine lv_iconst (v := 0) hx hb dX10_asked_101 (by decide) ?_
                exact x_ri hx hb hr hlk hQ (Nat.le_of_ble_eq_true rfl) (Nat.le_of_ble_eq_true rfl) hS dX10_asked_102 () ⟨_, rfl⟩ hh
              · refine lv_iconst (v := 1) hx hb dX10_asked_97 (by decide) ?_
                refine lv_goto (tgt := 102) hx hb dX10_asked_98 (by decide) ?_
                exact x_ri hx hb hr hlk hQ (Nat.le_of_ble_eq_true rfl) (Nat.le_of_ble_eq_true rfl) hS dX10_asked_102 () ⟨_, rfl⟩ hh
            · refine lv_lookup (off := 26) (tgt := 68) hx hb dX10_asked_42 (by decide) (by rw [c42]; rfl) (by decide) ?_
              refine lv_aload_n hx hb dX10_asked_68 rfl (lv_at hl 0 rfl) ?_
              refine gX10_10 S hK hT ha kf_X10_64 dX10_asked_69 (fun _ _ => ?_)
              refine lv_iload_n hx hb dX10_asked_72 rfl (lv_at hl 1 rfl) ?_
              refine x_clp (x_runV (b := (F a 10)) (As := [.int p0]) (rest := []) S (c_X4_number l E K F G s.heap (F a 10) p0 hk30) mv_X4_number km_X10_301 rfl rfl ⟨Nat.le_of_ble_eq_true rfl, Nat.le_of_ble_eq_true rfl⟩ (rc_6 hK hT hk30) hK (fun _ => XPh.blind) (fun U hU hW => XPh.at hK hz hS hT hU hW) rfl hl.1 (Nat.le_of_ble_eq_true rfl) dX10_asked_73 ⟨Nat.le_of_ble_eq_true rfl, Nat.le_of_ble_eq_true rfl⟩) hS ?_
              rintro _ _ locs ⟨x73, rfl, t73⟩ hS
              obtain ⟨hk73, hj73⟩ := fkX4_0 hT hk30
              have hj73a : F (F (F a 10) 0) 99 = 10 * 2 + 0 := by rw [hj73, hj30]
              have t73 : ((0 ≤ p0.toInt ∧ p0.toInt < ((G.1 (F a 10) 6).toInt) ∧ p0.toInt < 1080) ∧ x73.toInt = (aI (G.2.1 (F (F a 10) 0)) (p0.toInt))) ∨ (¬ (0 ≤ p0.toInt ∧ p0.toInt < ((G.1 (F a 10) 6).toInt) ∧ p0.toInt < 1080) ∧ x73.toInt = -1) := t73
              exact x_ri hx hb hr hlk hQ (Nat.le_of_ble_eq_true rfl) (Nat.le_of_ble_eq_true rfl) hS dX10_asked_76 () ⟨_, rfl⟩ hh
            · refine lv_lookup (off := 35) (tgt := 77) hx hb dX10_asked_42 (by decide) (by rw [c42]; rfl) (by decide) ?_
              refine lv_aload_n hx hb dX10_asked_77 rfl (lv_at hl 0 rfl) ?_
              refine gX10_10 S hK hT ha kf_X10_64 dX10_asked_78 (fun _ _ => ?_)
              refine lv_iload_n hx hb dX10_asked_81 rfl (lv_at hl 1 rfl) ?_
              refine x_clp (x_runV (b := (F a 10)) (As := [.int p0]) (rest := []) S (c_X4_subject l E K F G s.heap (F a 10) p0 hk30) mv_X4_subject km_X10_147 rfl rfl ⟨Nat.le_of_ble_eq_true rfl, Nat.le_of_ble_eq_true rfl⟩ (rc_6 hK hT hk30) hK (fun _ => XPh.blind) (fun U hU hW => XPh.at hK hz hS hT hU hW) rfl hl.1 (Nat.le_of_ble_eq_true rfl) dX10_asked_82 ⟨Nat.le_of_ble_eq_true rfl, Nat.le_of_ble_eq_true rfl⟩) hS ?_
              rintro _ _ locs ⟨x82, rfl, t82⟩ hS
              obtain ⟨hk82, hj82⟩ := fkX4_1 hT hk30
              have hj82a : F (F (F a 10) 1) 99 = 10 * 2 + 1 := by rw [hj82, hj30]
              have t82 : ((0 ≤ p0.toInt ∧ p0.toInt < ((G.1 (F a 10) 6).toInt) ∧ p0.toInt < 1080) ∧ x82.toInt = (aI (G.2.1 (F (F a 10) 1)) (p0.toInt))) ∨ (¬ (0 ≤ p0.toInt ∧ p0.toInt < ((G.1 (F a 10) 6).toInt) ∧ p0.toInt < 1080) ∧ x82.toInt = -1) := t82
              exact x_ri hx hb hr hlk hQ (Nat.le_of_ble_eq_true rfl) (Nat.le_of_ble_eq_true rfl) hS dX10_asked_85 () ⟨_, rfl⟩ hh
          · refine lv_iconst (v := (-1)) hx hb dX10_asked_39 (by decide) ?_
            exact x_ri hx hb hr hlk hQ (Nat.le_of_ble_eq_true rfl) (Nat.le_of_ble_eq_true rfl) hS dX10_asked_40 () ⟨_, rfl⟩ hh
      · refine lv_aload_n hx hb dX10_asked_16 rfl (lv_at hl 0 rfl) ?_
        obtain ⟨hk17, hj17⟩ := fkX10_10 hT ha
        refine gX10_10 S hK hT ha kf_X10_64 dX10_asked_17 (fun _ _ => ?_)
        refine x_clp (x_runV (b := (F a 10)) (As := []) (rest := []) S (c_X4_size l E K F G s.heap (F a 10) hk17) mv_X4_size km_X10_232 rfl rfl ⟨Nat.le_of_ble_eq_true rfl, Nat.le_of_ble_eq_true rfl⟩ (rc_6 hK hT hk17) hK (fun _ => XPh.blind) (fun U hU hW => XPh.at hK hz hS hT hU hW) rfl hl.1 (Nat.le_of_ble_eq_true rfl) dX10_asked_20 ⟨Nat.le_of_ble_eq_true rfl, Nat.le_of_ble_eq_true rfl⟩) hS ?_
        rintro _ _ locs ⟨x20, rfl, t20⟩ hS
        have t20 : x20.toInt = ((G.1 (F a 10) 6).toInt) := t20
        exact x_ri hx hb hr hlk hQ (Nat.le_of_ble_eq_true rfl) (Nat.le_of_ble_eq_true rfl) hS dX10_asked_23 () ⟨_, rfl⟩ hh
    · refine lv_iconst (v := (-1)) hx hb dX10_asked_9 (by decide) ?_
      exact x_ri hx hb hr hlk hQ (Nat.le_of_ble_eq_true rfl) (Nat.le_of_ble_eq_true rfl) hS dX10_asked_10 () ⟨_, rfl⟩ hh

theorem z_X10_since_1 (a0 : Int) (h0 : ¬ (a0 < 0)) (h1 : ¬ ((6 : Int) ≤ a0)) : 0 ≤ a0 ∧ a0 < ((6 : Nat) : Int) := by omega
abbrev rm_X10_since : Room := { frames := 0, cells := 0, slots := 0, locals := 0 }
set_option maxHeartbeats 4000000 in
set_option maxRecDepth 100000 in
theorem c_X10_since (l : Launch) (E : XE) (K : Nat → Nat) (F : Nat → Nat → Nat) (G : XG) (h0 : Heap) (a : Nat) (p0 : Int32) (ha : K a = 12) : Met l yX10_since (xw yX10_since cX10_since 2 (some .int)) rm_X10_since (va_Pc [.ref a, .int p0] (XPh E K F G h0)) (XQ E (fun v (u : Unit) => ∃ r : Int32, v = .int r) (fun _ H => H = h0)) 0 0 (xA E) := by
  refine x_enter (by decide) (Nat.le_of_ble_eq_true rfl) ?_
  intro p e s m args below meth c Q S hr hlk hnm hQ hP ls hl
  obtain ⟨⟨hz, hK, hT⟩, hh⟩ := hP
  obtain ⟨hx, hb, -, -, -⟩ := id S
  have hS : va_S (xA E) s.heap s.heap [] := va_S.rf
  have hl : lv_has ls 2 [(0, .ref a), (1, .int p0)] := hl
  refine lv_aload_n hx hb dX10_since_0 rfl (lv_at hl 0 rfl) ?_
  refine gX10_18 S hK hT ha kf_X10_123 dX10_since_1 (v := (G.1 a 18)) rfl (fun hz1 => ?_)
  refine xi_zne (tgt := 9) hx hb (rfl : Int32.toInt (G.1 a 18) = ((G.1 a 18).toInt)) dX10_since_4 (by decide) (fun c4 => ?_) (fun c4 => ?_)
  · refine lv_iload_n hx hb dX10_since_9 rfl (lv_at hl 1 rfl) ?_
    have J26 : ∀ (locs : List Loc) (ls : Array Slot), TW E K F G s.heap → va_S (xA E) s.heap s.heap locs → lv_has ls 2 [(0, .ref a), (1, .int p0)] → W p l e rm_X10_since s m args below meth c s.heap locs 0 0 Q (F0 m 26 ls []) := by
      intro locs ls hT hS hl
      refine lv_iload_n hx hb dX10_since_26 rfl (lv_at hl 1 rfl) ?_
      refine lv_bipush (v := 6) hx hb dX10_since_27 (by decide) ?_
      refine xi_cne (tgt := 39) hx hb (rfl : Int32.toInt p0 = p0.toInt) ((by decide) : Int32.toInt 6 = (6 : Int)) dX10_since_29 (by decide) (fun c29 => ?_) (fun c29 => ?_)
      · refine lv_iconst (v := (-1)) hx hb dX10_since_39 (by decide) ?_
        exact x_ri hx hb hr hlk hQ (Nat.le_of_ble_eq_true rfl) (Nat.le_of_ble_eq_true rfl) hS dX10_since_40 () ⟨_, rfl⟩ hh
      · refine lv_aload_n hx hb dX10_since_32 rfl (lv_at hl 0 rfl) ?_
        refine gX10_17 S hK hT ha kf_X10_233 dX10_since_33 (v := (G.1 a 17)) rfl (?_)
        refine lv_goto (tgt := 40) hx hb dX10_since_36 (by decide) ?_
        exact x_ri hx hb hr hlk hQ (Nat.le_of_ble_eq_true rfl) (Nat.le_of_ble_eq_true rfl) hS dX10_since_40 () ⟨_, rfl⟩ hh
    refine xi_zlt (tgt := 26) hx hb (rfl : Int32.toInt p0 = p0.toInt) dX10_since_10 (by decide) (fun c10 => ?_) (fun c10 => ?_)
    · exact J26 _ _ hT hS (lv_sub hl [0, 1] rfl)
    · refine lv_iload_n hx hb dX10_since_13 rfl (lv_at hl 1 rfl) ?_
      refine lv_bipush (v := 6) hx hb dX10_since_14 (by decide) ?_
      refine xi_cge (tgt := 26) hx hb (rfl : Int32.toInt p0 = p0.toInt) ((by decide) : Int32.toInt 6 = (6 : Int)) dX10_since_16 (by decide) (fun c16 => ?_) (fun c16 => ?_)
      · exact J26 _ _ hT hS (lv_sub hl [0, 1] rfl)
      · refine lv_aload_n hx hb dX10_since_19 rfl (lv_at hl 0 rfl) ?_
        obtain ⟨hk20, hj20⟩ := fkX10_15 hT ha
        refine gX10_15 S hK hT ha kf_X10_95 dX10_since_20 (fun _ _ => ?_)
        refine lv_iload_n hx hb dX10_since_23 rfl (lv_at hl 1 rfl) ?_
        refine al_0 S hK hT hk20 ar_26 (by decide) (z_X10_since_1 p0.toInt c10 c16) dX10_since_24 (fun x24 hv24 o24 => ?_)
        have hv24 : x24.toInt = (aI (G.2.1 (F a 15)) (p0.toInt)) := hv24.trans (by rw [(rfl : Int32.toInt p0 = p0.toInt)])
        exact x_ri hx hb hr hlk hQ (Nat.le_of_ble_eq_true rfl) (Nat.le_of_ble_eq_true rfl) hS dX10_since_25 () ⟨_, rfl⟩ hh
  · refine lv_iconst (v := (-1)) hx hb dX10_since_7 (by decide) ?_
    exact x_ri hx hb hr hlk hQ (Nat.le_of_ble_eq_true rfl) (Nat.le_of_ble_eq_true rfl) hS dX10_since_8 () ⟨_, rfl⟩ hh

abbrev rm_X10_count : Room := { frames := 4, cells := 0, slots := 0, locals := 84 }
set_option maxHeartbeats 4000000 in
set_option maxRecDepth 100000 in
theorem c_X10_count (l : Launch) (E : XE) (K : Nat → Nat) (F : Nat → Nat → Nat) (G : XG) (h0 : Heap) (a : Nat) (p0 : Int32) (ha : K a = 12) (ron : RO (vw (G.2.1 (F (F a 3) 0))) (aI (G.2.1 (F (F a 3) 1)))) : Met l yX10_count (xw yX10_count cX10_count 2 (some .int)) rm_X10_count (va_Pc [.ref a, .int p0] (XPh E K F G h0)) (XQ E (fun v (u : Unit) => ∃ r : Int32, v = .int r) (fun _ H => H = h0)) 0 0 (xA E) := by
  refine x_enter (by decide) (Nat.le_of_ble_eq_true rfl) ?_
  intro p e s m args below meth c Q S hr hlk hnm hQ hP ls hl
  obtain ⟨⟨hz, hK, hT⟩, hh⟩ := hP
  obtain ⟨hx, hb, -, -, -⟩ := id S
  have hS : va_S (xA E) s.heap s.heap [] := va_S.rf
  have hl : lv_has ls 2 [(0, .ref a), (1, .int p0)] := hl
  obtain ⟨hk9999, hj9999⟩ := fkX10_3 hT ha
  obtain ⟨hk9999a, hj9999a⟩ := fkX6_0 hT hk9999
  have hj9999b : F (F (F a 3) 0) 99 = 0 := by rw [hj9999a, hj9999]
  obtain ⟨hk9999b, hj9999c⟩ := fkX6_1 hT hk9999
  have hj9999d : F (F (F a 3) 1) 99 = 0 := by rw [hj9999c, hj9999]
  refine lv_iload_n hx hb dX10_count_0 rfl (lv_at hl 1 rfl) ?_
  rcases ((z_X10_told_1 p0.toInt) : (p0.toInt < 0 ∨ 9 < p0.toInt) ∨ (p0.toInt = 0) ∨ (p0.toInt = 1) ∨ (p0.toInt = 2) ∨ (p0.toInt = 3) ∨ (p0.toInt = 4) ∨ (p0.toInt = 5) ∨ (p0.toInt = 6) ∨ (p0.toInt = 7) ∨ (p0.toInt = 8) ∨ (p0.toInt = 9)) with c1 | c1 | c1 | c1 | c1 | c1 | c1 | c1 | c1 | c1 | c1
  · refine lv_tableOut (tgt := 137) hx hb dX10_count_1 c1 (by decide) ?_
    refine lv_iconst (v := (-1)) hx hb dX10_count_137 (by decide) ?_
    exact x_ri hx hb hr hlk hQ (Nat.le_of_ble_eq_true rfl) (Nat.le_of_ble_eq_true rfl) hS dX10_count_138 () ⟨_, rfl⟩ hh
  · refine lv_tableIn (off := 55) (tgt := 56) hx hb dX10_count_1 (by rw [c1]; decide) (by rw [c1]; decide) (by rw [c1]; rfl) (by decide) ?_
    refine lv_aload_n hx hb dX10_count_56 rfl (lv_at hl 0 rfl) ?_
    obtain ⟨hk57, hj57⟩ := fkX10_2 hT ha
    refine gX10_2 S hK hT ha kf_X10_30 dX10_count_57 (fun _ _ => ?_)
    refine x_clp (x_runV (b := (F a 2)) (As := []) (rest := []) S (c_X0_size l E K F G s.heap (F a 2) hk57) mv_X0_size km_X10_167 rfl rfl ⟨Nat.le_of_ble_eq_true rfl, Nat.le_of_ble_eq_true rfl⟩ (rc_2 hK hT hk57) hK (fun _ => XPh.blind) (fun U hU hW => XPh.at hK hz hS hT hU hW) rfl hl.1 (Nat.le_of_ble_eq_true rfl) dX10_count_60 ⟨Nat.le_of_ble_eq_true rfl, Nat.le_of_ble_eq_true rfl⟩) hS ?_
    rintro _ _ locs ⟨x60, rfl, t60⟩ hS
    have t60 : x60.toInt = ((G.1 (F a 2) 2).toInt) := t60
    exact x_ri hx hb hr hlk hQ (Nat.le_of_ble_eq_true rfl) (Nat.le_of_ble_eq_true rfl) hS dX10_count_63 () ⟨_, rfl⟩ hh
  · refine lv_tableIn (off := 63) (tgt := 64) hx hb dX10_count_1 (by rw [c1]; decide) (by rw [c1]; decide) (by rw [c1]; rfl) (by decide) ?_
    refine lv_aload_n hx hb dX10_count_64 rfl (lv_at hl 0 rfl) ?_
    refine gX10_3 S hK hT ha kf_X10_37 dX10_count_65 (fun _ _ => ?_)
    refine x_clp (x_runV (b := (F a 3)) (As := []) (rest := []) S (c_X6_total l E K F G s.heap (F a 3) hk9999 (v_X10_count_68_1 (F := F) a G ron)) mv_X6_total km_X10_222 rfl rfl ⟨Nat.le_of_ble_eq_true rfl, Nat.le_of_ble_eq_true rfl⟩ (rc_8 hK hT hk9999) hK (fun _ => XPh.blind) (fun U hU hW => XPh.at hK hz hS hT hU hW) rfl hl.1 (Nat.le_of_ble_eq_true rfl) dX10_count_68 ⟨Nat.le_of_ble_eq_true rfl, Nat.le_of_ble_eq_true rfl⟩) hS ?_
    rintro _ _ locs ⟨x68, rfl, t68⟩ hS
    have t68 : x68.toInt = (toB (aI (G.2.1 (F (F a 3) 1))) 3) ∧ (0 ≤ x68.toInt ∧ x68.toInt ≤ 90) := t68
    exact x_ri hx hb hr hlk hQ (Nat.le_of_ble_eq_true rfl) (Nat.le_of_ble_eq_true rfl) hS dX10_count_71 () ⟨_, rfl⟩ hh
  · refine lv_tableIn (off := 71) (tgt := 72) hx hb dX10_count_1 (by rw [c1]; decide) (by rw [c1]; decide) (by rw [c1]; rfl) (by decide) ?_
    refine lv_aload_n hx hb dX10_count_72 rfl (lv_at hl 0 rfl) ?_
    obtain ⟨hk73, hj73⟩ := fkX10_8 hT ha
    refine gX10_8 S hK hT ha kf_X10_57 dX10_count_73 (fun _ _ => ?_)
    refine x_clp (x_runV (b := (F a 8)) (As := []) (rest := []) S (c_X4_size l E K F G s.heap (F a 8) hk73) mv_X4_size km_X10_232 rfl rfl ⟨Nat.le_of_ble_eq_true rfl, Nat.le_of_ble_eq_true rfl⟩ (rc_6 hK hT hk73) hK (fun _ => XPh.blind) (fun U hU hW => XPh.at hK hz hS hT hU hW) rfl hl.1 (Nat.le_of_ble_eq_true rfl) dX10_count_76 ⟨Nat.le_of_ble_eq_true rfl, Nat.le_of_ble_eq_true rfl⟩) hS ?_
    rintro _ _ locs ⟨x76, rfl, t76⟩ hS
    have t76 : x76.toInt = ((G.1 (F a 8) 6).toInt) := t76
    exact x_ri hx hb hr hlk hQ (Nat.le_of_ble_eq_true rfl) (Nat.le_of_ble_eq_true rfl) hS dX10_count_79 () ⟨_, rfl⟩ hh
  · refine lv_tableIn (off := 79) (tgt := 80) hx hb dX10_count_1 (by rw [c1]; decide) (by rw [c1]; decide) (by rw [c1]; rfl) (by decide) ?_
    refine lv_aload_n hx hb dX10_count_80 rfl (lv_at hl 0 rfl) ?_
    refine gX10_18 S hK hT ha kf_X10_123 dX10_count_81 (v := (G.1 a 18)) rfl (fun hz81 => ?_)
    refine xi_zeq (tgt := 91) hx hb (rfl : Int32.toInt (G.1 a 18) = ((G.1 a 18).toInt)) dX10_count_84 (by decide) (fun c84 => ?_) (fun c84 => ?_)
    · refine lv_iconst (v := 0) hx hb dX10_count_91 (by decide) ?_
      exact x_ri hx hb hr hlk hQ (Nat.le_of_ble_eq_true rfl) (Nat.le_of_ble_eq_true rfl) hS dX10_count_92 () ⟨_, rfl⟩ hh
    · refine lv_iconst (v := 1) hx hb dX10_count_87 (by decide) ?_
      refine lv_goto (tgt := 92) hx hb dX10_count_88 (by decide) ?_
      exact x_ri hx hb hr hlk hQ (Nat.le_of_ble_eq_true rfl) (Nat.le_of_ble_eq_true rfl) hS dX10_count_92 () ⟨_, rfl⟩ hh
  · refine lv_tableIn (off := 92) (tgt := 93) hx hb dX10_count_1 (by rw [c1]; decide) (by rw [c1]; decide) (by rw [c1]; rfl) (by decide) ?_
    refine lv_aload_n hx hb dX10_count_93 rfl (lv_at hl 0 rfl) ?_
    obtain ⟨hk94, hj94⟩ := fkX10_16 hT ha
    refine gX10_16 S hK hT ha kf_X10_99 dX10_count_94 (fun _ _ => ?_)
    refine lv_iconst (v := 0) hx hb dX10_count_97 (by decide) ?_
    refine al_0 S hK hT hk94 ar_27 (by decide) (by decide) dX10_count_98 (fun x98 hv98 o98 => ?_)
    have hv98 : x98.toInt = (aI (G.2.1 (F a 16)) 0) := hv98.trans (by rw [((by decide) : Int32.toInt 0 = (0 : Int))])
    exact x_ri hx hb hr hlk hQ (Nat.le_of_ble_eq_true rfl) (Nat.le_of_ble_eq_true rfl) hS dX10_count_99 () ⟨_, rfl⟩ hh
  · refine lv_tableIn (off := 99) (tgt := 100) hx hb dX10_count_1 (by rw [c1]; decide) (by rw [c1]; decide) (by rw [c1]; rfl) (by decide) ?_
    refine lv_aload_n hx hb dX10_count_100 rfl (lv_at hl 0 rfl) ?_
    obtain ⟨hk101, hj101⟩ := fkX10_16 hT ha
    refine gX10_16 S hK hT ha kf_X10_99 dX10_count_101 (fun _ _ => ?_)
    refine lv_iconst (v := 1) hx hb dX10_count_104 (by decide) ?_
    refine al_0 S hK hT hk101 ar_27 (by decide) (by decide) dX10_count_105 (fun x105 hv105 o105 => ?_)
    have hv105 : x105.toInt = (aI (G.2.1 (F a 16)) 1) := hv105.trans (by rw [((by decide) : Int32.toInt 1 = (1 : Int))])
    exact x_ri hx hb hr hlk hQ (Nat.le_of_ble_eq_true rfl) (Nat.le_of_ble_eq_true rfl) hS dX10_count_106 () ⟨_, rfl⟩ hh
  · refine lv_tableIn (off := 106) (tgt := 107) hx hb dX10_count_1 (by rw [c1]; decide) (by rw [c1]; decide) (by rw [c1]; rfl) (by decide) ?_
    refine lv_aload_n hx hb dX10_count_107 rfl (lv_at hl 0 rfl) ?_
    obtain ⟨hk108, hj108⟩ := fkX10_16 hT ha
    refine gX10_16 S hK hT ha kf_X10_99 dX10_count_108 (fun _ _ => ?_)
    refine lv_iconst (v := 2) hx hb dX10_count_111 (by decide) ?_
    refine al_0 S hK hT hk108 ar_27 (by decide) (by decide) dX10_count_112 (fun x112 hv112 o112 => ?_)
    have hv112 : x112.toInt = (aI (G.2.1 (F a 16)) 2) := hv112.trans (by rw [((by decide) : Int32.toInt 2 = (2 : Int))])
    exact x_ri hx hb hr hlk hQ (Nat.le_of_ble_eq_true rfl) (Nat.le_of_ble_eq_true rfl) hS dX10_count_113 () ⟨_, rfl⟩ hh
  · refine lv_tableIn (off := 113) (tgt := 114) hx hb dX10_count_1 (by rw [c1]; decide) (by rw [c1]; decide) (by rw [c1]; rfl) (by decide) ?_
    refine lv_aload_n hx hb dX10_count_114 rfl (lv_at hl 0 rfl) ?_
    obtain ⟨hk115, hj115⟩ := fkX10_16 hT ha
    refine gX10_16 S hK hT ha kf_X10_99 dX10_count_115 (fun _ _ => ?_)
    refine lv_iconst (v := 3) hx hb dX10_count_118 (by decide) ?_
    refine al_0 S hK hT hk115 ar_27 (by decide) (by decide) dX10_count_119 (fun x119 hv119 o119 => ?_)
    have hv119 : x119.toInt = (aI (G.2.1 (F a 16)) 3) := hv119.trans (by rw [((by decide) : Int32.toInt 3 = (3 : Int))])
    exact x_ri hx hb hr hlk hQ (Nat.le_of_ble_eq_true rfl) (Nat.le_of_ble_eq_true rfl) hS dX10_count_120 () ⟨_, rfl⟩ hh
  · refine lv_tableIn (off := 120) (tgt := 121) hx hb dX10_count_1 (by rw [c1]; decide) (by rw [c1]; decide) (by rw [c1]; rfl) (by decide) ?_
    refine lv_aload_n hx hb dX10_count_121 rfl (lv_at hl 0 rfl) ?_
    obtain ⟨hk122, hj122⟩ := fkX10_0 hT ha
    refine gX10_0 S hK hT ha kf_X10_12 dX10_count_122 (fun _ _ => ?_)
    refine x_clp (x_runV (b := (F a 0)) (As := []) (rest := []) S (c_X8_length l E K F G s.heap (F a 0) hk122) mv_X8_length km_X10_106 rfl rfl ⟨Nat.le_of_ble_eq_true rfl, Nat.le_of_ble_eq_true rfl⟩ (rc_10 hK hT hk122) hK (fun _ => XPh.blind) (fun U hU hW => XPh.at hK hz hS hT hU hW) rfl hl.1 (Nat.le_of_ble_eq_true rfl) dX10_count_125 ⟨Nat.le_of_ble_eq_true rfl, Nat.le_of_ble_eq_true rfl⟩) hS ?_
    rintro _ _ locs ⟨x125, rfl, t125⟩ hS
    have t125 : x125.toInt = ((G.1 (F a 0) 1).toInt) := t125
    exact x_ri hx hb hr hlk hQ (Nat.le_of_ble_eq_true rfl) (Nat.le_of_ble_eq_true rfl) hS dX10_count_128 () ⟨_, rfl⟩ hh
  · refine lv_tableIn (off := 128) (tgt := 129) hx hb dX10_count_1 (by rw [c1]; decide) (by rw [c1]; decide) (by rw [c1]; rfl) (by decide) ?_
    refine lv_aload_n hx hb dX10_count_129 rfl (lv_at hl 0 rfl) ?_
    obtain ⟨hk130, hj130⟩ := fkX10_2 hT ha
    refine gX10_2 S hK hT ha kf_X10_30 dX10_count_130 (fun _ _ => ?_)
    refine x_clp (x_runV (b := (F a 2)) (As := []) (rest := []) S (c_X0_lateOnes l E K F G s.heap (F a 2) hk130) mv_X0_lateOnes km_X10_368 rfl rfl ⟨Nat.le_of_ble_eq_true rfl, Nat.le_of_ble_eq_true rfl⟩ (rc_2 hK hT hk130) hK (fun _ => XPh.blind) (fun U hU hW => XPh.at hK hz hS hT hU hW) rfl hl.1 (Nat.le_of_ble_eq_true rfl) dX10_count_133 ⟨Nat.le_of_ble_eq_true rfl, Nat.le_of_ble_eq_true rfl⟩) hS ?_
    rintro _ _ locs ⟨x133, rfl⟩ hS
    exact x_ri hx hb hr hlk hQ (Nat.le_of_ble_eq_true rfl) (Nat.le_of_ble_eq_true rfl) hS dX10_count_136 () ⟨_, rfl⟩ hh

theorem z_X10_first_2 (a0 : Int) : (a0 < 0 ∨ 3 < a0) ∨ (a0 = 0) ∨ (a0 = 1) ∨ (a0 = 2) ∨ (a0 = 3) := by omega
abbrev rm_X10_first : Room := { frames := 3, cells := 0, slots := 0, locals := 64 }
set_option maxHeartbeats 4000000 in
set_option maxRecDepth 100000 in
theorem c_X10_first (l : Launch) (E : XE) (K : Nat → Nat) (F : Nat → Nat → Nat) (G : XG) (h0 : Heap) (a : Nat) (p0 : Int32) (ha : K a = 12) (w8 : 0 ≤ ((G.1 (F a 8) 6).toInt) ∧ ((G.1 (F a 8) 6).toInt) ≤ 1080) : Met l yX10_first (xw yX10_first cX10_first 3 (some .int)) rm_X10_first (va_Pc [.ref a, .int p0] (XPh E K F G h0)) (XQ E (fun v (u : Unit) => ∃ r : Int32, v = .int r) (fun _ H => H = h0)) 0 0 (xA E) := by
  refine x_enter (by decide) (Nat.le_of_ble_eq_true rfl) ?_
  intro p e s m args below meth c Q S hr hlk hnm hQ hP ls hl
  obtain ⟨⟨hz, hK, hT⟩, hh⟩ := hP
  obtain ⟨hx, hb, -, -, -⟩ := id S
  have hS : va_S (xA E) s.heap s.heap [] := va_S.rf
  have hl : lv_has ls 3 [(0, .ref a), (1, .int p0)] := hl
  obtain ⟨hk9999, hj9999⟩ := fkX10_8 hT ha
  refine lv_aload_n hx hb dX10_first_0 rfl (lv_at hl 0 rfl) ?_
  refine gX10_18 S hK hT ha kf_X10_123 dX10_first_1 (v := (G.1 a 18)) rfl (fun hz1 => ?_)
  refine xi_zne (tgt := 9) hx hb (rfl : Int32.toInt (G.1 a 18) = ((G.1 a 18).toInt)) dX10_first_4 (by decide) (fun c4 => ?_) (fun c4 => ?_)
  · refine lv_aload_n hx hb dX10_first_9 rfl (lv_at hl 0 rfl) ?_
    refine gX10_8 S hK hT ha kf_X10_57 dX10_first_10 (fun _ _ => ?_)
    refine x_clp (x_runV (b := (F a 8)) (As := []) (rest := []) S (c_X4_firstFailing l E K F G s.heap (F a 8) hk9999 (w8)) mv_X4_firstFailing km_X10_244 rfl rfl ⟨Nat.le_of_ble_eq_true rfl, Nat.le_of_ble_eq_true rfl⟩ (rc_6 hK hT hk9999) hK (fun _ => XPh.blind) (fun U hU hW => XPh.at hK hz hS hT hU hW) rfl hl.1 (Nat.le_of_ble_eq_true rfl) dX10_first_13 ⟨Nat.le_of_ble_eq_true rfl, Nat.le_of_ble_eq_true rfl⟩) hS ?_
    rintro _ _ locs ⟨x13, rfl, t13, oq13⟩ hS
    obtain ⟨hk13, hj13⟩ := fkX4_5 hT hk9999
    have hj13a : F (F (F a 8) 5) 99 = 10 * 0 + 5 := by rw [hj13, hj9999]
    have t13 : x13.toInt = -1 ∨ (0 ≤ x13.toInt ∧ x13.toInt < ((G.1 (F a 8) 6).toInt) ∧ (aI (G.2.1 (F (F a 8) 5)) (x13.toInt)) = 1) := t13
    refine lv_istore_n (lv' := [(2, .int x13), (0, .ref a), (1, .int p0)]) hx hb dX10_first_16 rfl hl (by decide) rfl (fun ls hl => ?_)
    refine lv_iload_n hx hb dX10_first_17 rfl (lv_at hl 2 rfl) ?_
    rcases ((z_X10_first_2 p0.toInt) : (p0.toInt < 0 ∨ 3 < p0.toInt) ∨ (p0.toInt = 0) ∨ (p0.toInt = 1) ∨ (p0.toInt = 2) ∨ (p0.toInt = 3)) with c18 | c18 | c18 | c18 | c18
    · refine lv_tableOut (tgt := 94) hx hb dX10_first_18 c18 (by decide) ?_
      refine lv_ldcw (v := (-2147483648)) hx hb S.2.2.2.1 (S.2.2.2.2 _ (List.mem_cons_of_mem _ kc_X10_274)) dX10_first_94 ?_
      exact x_ri hx hb hr hlk hQ (Nat.le_of_ble_eq_true rfl) (Nat.le_of_ble_eq_true rfl) hS dX10_first_97 () ⟨_, rfl⟩ hh
    · refine lv_tableIn (off := 30) (tgt := 48) hx hb dX10_first_18 (by rw [c18]; decide) (by rw [c18]; decide) (by rw [c18]; rfl) (by decide) ?_
      refine lv_iload_n hx hb dX10_first_48 rfl (lv_at hl 0 rfl) ?_
      refine lv_iconst (v := (-1)) hx hb dX10_first_49 (by decide) ?_
      refine xi_cne (tgt := 57) hx hb (rfl : Int32.toInt x13 = x13.toInt) ((by decide) : Int32.toInt (-1) = (-1 : Int)) dX10_first_50 (by decide) (fun c50 => ?_) (fun c50 => ?_)
      · refine lv_aload_n hx hb dX10_first_57 rfl (lv_at hl 1 rfl) ?_
        refine gX10_8 S hK hT ha kf_X10_57 dX10_first_58 (fun _ _ => ?_)
        refine lv_iload_n hx hb dX10_first_61 rfl (lv_at hl 0 rfl) ?_
        refine x_clp (x_runV (b := (F a 8)) (As := [.int x13]) (rest := []) S (c_X4_number l E K F G s.heap (F a 8) x13 hk9999) mv_X4_number km_X10_301 rfl rfl ⟨Nat.le_of_ble_eq_true rfl, Nat.le_of_ble_eq_true rfl⟩ (rc_6 hK hT hk9999) hK (fun _ => XPh.blind) (fun U hU hW => XPh.at hK hz hS hT hU hW) rfl hl.1 (Nat.le_of_ble_eq_true rfl) dX10_first_62 ⟨Nat.le_of_ble_eq_true rfl, Nat.le_of_ble_eq_true rfl⟩) hS ?_
        rintro _ _ locs ⟨x62, rfl, t62⟩ hS
        obtain ⟨hk62, hj62⟩ := fkX4_0 hT hk9999
        have hj62a : F (F (F a 8) 0) 99 = 10 * 0 + 0 := by rw [hj62, hj9999]
        have t62 : ((0 ≤ x13.toInt ∧ x13.toInt < ((G.1 (F a 8) 6).toInt) ∧ x13.toInt < 1080) ∧ x62.toInt = (aI (G.2.1 (F (F a 8) 0)) (x13.toInt))) ∨ (¬ (0 ≤ x13.toInt ∧ x13.toInt < ((G.1 (F a 8) 6).toInt) ∧ x13.toInt < 1080) ∧ x62.toInt = -1) := t62
        exact x_ri hx hb hr hlk hQ (Nat.le_of_ble_eq_true rfl) (Nat.le_of_ble_eq_true rfl) hS dX10_first_65 () ⟨_, rfl⟩ hh
      · refine lv_iconst (v := (-1)) hx hb dX10_first_53 (by decide) ?_
        refine lv_goto (tgt := 65) hx hb dX10_first_54 (by decide) ?_
        exact x_ri hx hb hr hlk hQ (Nat.le_of_ble_eq_true rfl) (Nat.le_of_ble_eq_true rfl) hS dX10_first_65 () ⟨_, rfl⟩ hh
    · refine lv_tableIn (off := 48) (tgt := 66) hx hb dX10_first_18 (by rw [c18]; decide) (by rw [c18]; decide) (by rw [c18]; rfl) (by decide) ?_
      refine lv_iload_n hx hb dX10_first_66 rfl (lv_at hl 0 rfl) ?_
      refine lv_iconst (v := (-1)) hx hb dX10_first_67 (by decide) ?_
      refine xi_cne (tgt := 75) hx hb (rfl : Int32.toInt x13 = x13.toInt) ((by decide) : Int32.toInt (-1) = (-1 : Int)) dX10_first_68 (by decide) (fun c68 => ?_) (fun c68 => ?_)
      · refine lv_aload_n hx hb dX10_first_75 rfl (lv_at hl 1 rfl) ?_
        refine gX10_8 S hK hT ha kf_X10_57 dX10_first_76 (fun _ _ => ?_)
        refine lv_iload_n hx hb dX10_first_79 rfl (lv_at hl 0 rfl) ?_
        refine x_clp (x_runV (b := (F a 8)) (As := [.int x13]) (rest := []) S (c_X4_subject l E K F G s.heap (F a 8) x13 hk9999) mv_X4_subject km_X10_147 rfl rfl ⟨Nat.le_of_ble_eq_true rfl, Nat.le_of_ble_eq_true rfl⟩ (rc_6 hK hT hk9999) hK (fun _ => XPh.blind) (fun U hU hW => XPh.at hK hz hS hT hU hW) rfl hl.1 (Nat.le_of_ble_eq_true rfl) dX10_first_80 ⟨Nat.le_of_ble_eq_true rfl, Nat.le_of_ble_eq_true rfl⟩) hS ?_
        rintro _ _ locs ⟨x80, rfl, t80⟩ hS
        obtain ⟨hk80, hj80⟩ := fkX4_1 hT hk9999
        have hj80a : F (F (F a 8) 1) 99 = 10 * 0 + 1 := by rw [hj80, hj9999]
        have t80 : ((0 ≤ x13.toInt ∧ x13.toInt < ((G.1 (F a 8) 6).toInt) ∧ x13.toInt < 1080) ∧ x80.toInt = (aI (G.2.1 (F (F a 8) 1)) (x13.toInt))) ∨ (¬ (0 ≤ x13.toInt ∧ x13.toInt < ((G.1 (F a 8) 6).toInt) ∧ x13.toInt < 1080) ∧ x80.toInt = -1) := t80
        exact x_ri hx hb hr hlk hQ (Nat.le_of_ble_eq_true rfl) (Nat.le_of_ble_eq_true rfl) hS dX10_first_83 () ⟨_, rfl⟩ hh
      · refine lv_iconst (v := (-1)) hx hb dX10_first_71 (by decide) ?_
        refine lv_goto (tgt := 83) hx hb dX10_first_72 (by decide) ?_
        exact x_ri hx hb hr hlk hQ (Nat.le_of_ble_eq_true rfl) (Nat.le_of_ble_eq_true rfl) hS dX10_first_83 () ⟨_, rfl⟩ hh
    · refine lv_tableIn (off := 66) (tgt := 84) hx hb dX10_first_18 (by rw [c18]; decide) (by rw [c18]; decide) (by rw [c18]; rfl) (by decide) ?_
      refine lv_iload_n hx hb dX10_first_84 rfl (lv_at hl 0 rfl) ?_
      exact x_ri hx hb hr hlk hQ (Nat.le_of_ble_eq_true rfl) (Nat.le_of_ble_eq_true rfl) hS dX10_first_85 () ⟨_, rfl⟩ hh
    · refine lv_tableIn (off := 68) (tgt := 86) hx hb dX10_first_18 (by rw [c18]; decide) (by rw [c18]; decide) (by rw [c18]; rfl) (by decide) ?_
      refine lv_aload_n hx hb dX10_first_86 rfl (lv_at hl 1 rfl) ?_
      refine gX10_8 S hK hT ha kf_X10_57 dX10_first_87 (fun _ _ => ?_)
      refine x_clp (x_runV (b := (F a 8)) (As := []) (rest := []) S (c_X4_failing l E K F G s.heap (F a 8) hk9999 (w8)) mv_X4_failing km_X10_335 rfl rfl ⟨Nat.le_of_ble_eq_true rfl, Nat.le_of_ble_eq_true rfl⟩ (rc_6 hK hT hk9999) hK (fun _ => XPh.blind) (fun U hU hW => XPh.at hK hz hS hT hU hW) rfl hl.1 (Nat.le_of_ble_eq_true rfl) dX10_first_90 ⟨Nat.le_of_ble_eq_true rfl, Nat.le_of_ble_eq_true rfl⟩) hS ?_
      rintro _ _ locs ⟨x90, rfl, t90⟩ hS
      obtain ⟨hk90, hj90⟩ := fkX4_5 hT hk9999
      have hj90a : F (F (F a 8) 5) 99 = 10 * 0 + 5 := by rw [hj90, hj9999]
      have t90 : x90.toInt = (hv (aI (G.2.1 (F (F a 8) 5))) 0 1 ((G.1 (F a 8) 6).toInt)) := t90
      exact x_ri hx hb hr hlk hQ (Nat.le_of_ble_eq_true rfl) (Nat.le_of_ble_eq_true rfl) hS dX10_first_93 () ⟨_, rfl⟩ hh
  · refine lv_iconst (v := (-1)) hx hb dX10_first_7 (by decide) ?_
    exact x_ri hx hb hr hlk hQ (Nat.le_of_ble_eq_true rfl) (Nat.le_of_ble_eq_true rfl) hS dX10_first_8 () ⟨_, rfl⟩ hh

theorem z_X5_faultPlace_1 (a0 : Int) : a0 = a0 := by omega
abbrev rm_X5_faultPlace : Room := { frames := 0, cells := 0, slots := 0, locals := 0 }
set_option maxHeartbeats 4000000 in
set_option maxRecDepth 100000 in
theorem c_X5_faultPlace (l : Launch) (E : XE) (K : Nat → Nat) (F : Nat → Nat → Nat) (G : XG) (h0 : Heap) (a : Nat) (ha : K a = 7) : Met l yX5_faultPlace (xw yX5_faultPlace cX5_faultPlace 1 (some .int)) rm_X5_faultPlace (va_Pc [.ref a] (XPh E K F G h0)) (XQ E (fun v (u : Unit) => ∃ r : Int32, v = .int r ∧ (r.toInt = ((G.1 a 2).toInt))) (fun _ H => H = h0)) 0 0 (xA E) := by
  refine x_enter (by decide) (Nat.le_of_ble_eq_true rfl) ?_
  intro p e s m args below meth c Q S hr hlk hnm hQ hP ls hl
  obtain ⟨⟨hz, hK, hT⟩, hh⟩ := hP
  obtain ⟨hx, hb, -, -, -⟩ := id S
  have hS : va_S (xA E) s.heap s.heap [] := va_S.rf
  have hl : lv_has ls 1 [(0, .ref a)] := hl
  refine lv_aload_n hx hb dX5_faultPlace_0 rfl (lv_at hl 0 rfl) ?_
  refine gX5_2 S hK hT ha kf_X5_78 dX5_faultPlace_1 (v := (G.1 a 2)) rfl (?_)
  exact x_ri hx hb hr hlk hQ (Nat.le_of_ble_eq_true rfl) (Nat.le_of_ble_eq_true rfl) hS dX5_faultPlace_4 () ⟨_, rfl, (z_X5_faultPlace_1 ((G.1 a 2).toInt))⟩ hh

abbrev rm_X9_isTold : Room := { frames := 0, cells := 0, slots := 0, locals := 0 }
set_option maxHeartbeats 4000000 in
set_option maxRecDepth 100000 in
theorem c_X9_isTold (l : Launch) (E : XE) (K : Nat → Nat) (F : Nat → Nat → Nat) (G : XG) (h0 : Heap) (a : Nat) (ha : K a = 11) : Met l yX9_isTold (xw yX9_isTold cX9_isTold 1 (some .boolean)) rm_X9_isTold (va_Pc [.ref a] (XPh E K F G h0)) (XQ E (fun v (u : Unit) => ∃ r : Int32, v = .int r ∧ (r = 0 ∨ r = 1)) (fun _ H => H = h0)) 0 0 (xA E) := by
  refine x_enter (by decide) (Nat.le_of_ble_eq_true rfl) ?_
  intro p e s m args below meth c Q S hr hlk hnm hQ hP ls hl
  obtain ⟨⟨hz, hK, hT⟩, hh⟩ := hP
  obtain ⟨hx, hb, -, -, -⟩ := id S
  have hS : va_S (xA E) s.heap s.heap [] := va_S.rf
  have hl : lv_has ls 1 [(0, .ref a)] := hl
  refine lv_aload_n hx hb dX9_isTold_0 rfl (lv_at hl 0 rfl) ?_
  refine gX9_1 S hK hT ha kf_X9_18 dX9_isTold_1 (v := (G.1 a 1)) rfl (fun hz1 => ?_)
  exact x_rz hx hb hr (xnz hz1) hlk hQ (Nat.le_of_ble_eq_true rfl) (Nat.le_of_ble_eq_true rfl) hS dX9_isTold_4 () ⟨_, rfl, hz1⟩ hh

abbrev rm_X9_number : Room := { frames := 0, cells := 0, slots := 0, locals := 0 }
set_option maxHeartbeats 4000000 in
set_option maxRecDepth 100000 in
theorem c_X9_number (l : Launch) (E : XE) (K : Nat → Nat) (F : Nat → Nat → Nat) (G : XG) (h0 : Heap) (a : Nat) (ha : K a = 11) : Met l yX9_number (xw yX9_number cX9_number 1 (some .int)) rm_X9_number (va_Pc [.ref a] (XPh E K F G h0)) (XQ E (fun v (u : Unit) => ∃ r : Int32, v = .int r) (fun _ H => H = h0)) 0 0 (xA E) := by
  refine x_enter (by decide) (Nat.le_of_ble_eq_true rfl) ?_
  intro p e s m args below meth c Q S hr hlk hnm hQ hP ls hl
  obtain ⟨⟨hz, hK, hT⟩, hh⟩ := hP
  obtain ⟨hx, hb, -, -, -⟩ := id S
  have hS : va_S (xA E) s.heap s.heap [] := va_S.rf
  have hl : lv_has ls 1 [(0, .ref a)] := hl
  refine lv_aload_n hx hb dX9_number_0 rfl (lv_at hl 0 rfl) ?_
  refine gX9_2 S hK hT ha kf_X9_26 dX9_number_1 (v := (G.1 a 2)) rfl (?_)
  exact x_ri hx hb hr hlk hQ (Nat.le_of_ble_eq_true rfl) (Nat.le_of_ble_eq_true rfl) hS dX9_number_4 () ⟨_, rfl⟩ hh

abbrev rm_X9_subject : Room := { frames := 0, cells := 0, slots := 0, locals := 0 }
set_option maxHeartbeats 4000000 in
set_option maxRecDepth 100000 in
theorem c_X9_subject (l : Launch) (E : XE) (K : Nat → Nat) (F : Nat → Nat → Nat) (G : XG) (h0 : Heap) (a : Nat) (ha : K a = 11) : Met l yX9_subject (xw yX9_subject cX9_subject 1 (some .int)) rm_X9_subject (va_Pc [.ref a] (XPh E K F G h0)) (XQ E (fun v (u : Unit) => ∃ r : Int32, v = .int r) (fun _ H => H = h0)) 0 0 (xA E) := by
  refine x_enter (by decide) (Nat.le_of_ble_eq_true rfl) ?_
  intro p e s m args below meth c Q S hr hlk hnm hQ hP ls hl
  obtain ⟨⟨hz, hK, hT⟩, hh⟩ := hP
  obtain ⟨hx, hb, -, -, -⟩ := id S
  have hS : va_S (xA E) s.heap s.heap [] := va_S.rf
  have hl : lv_has ls 1 [(0, .ref a)] := hl
  refine lv_aload_n hx hb dX9_subject_0 rfl (lv_at hl 0 rfl) ?_
  refine gX9_3 S hK hT ha kf_X9_30 dX9_subject_1 (v := (G.1 a 3)) rfl (?_)
  exact x_ri hx hb hr hlk hQ (Nat.le_of_ble_eq_true rfl) (Nat.le_of_ble_eq_true rfl) hS dX9_subject_4 () ⟨_, rfl⟩ hh
theorem v_X10_wouldSet_6_1 {F : Nat → Nat → Nat} (a : Nat) (G : XG)
    (ron : RO (vw (G.2.1 (F (F a 3) 0))) (aI (G.2.1 (F (F a 3) 1)))) :
    RO (vw (G.2.1 (F (F a 3) 0))) (aI (G.2.1 (F (F a 3) 1))) := by exact ron
theorem v_X10_wouldSet_22_2 {F : Nat → Nat → Nat} (a : Nat) (G : XG) (G6 : XG)
    (ron : RO (vw (G.2.1 (F (F a 3) 0))) (aI (G.2.1 (F (F a 3) 1))))
    (c_G6_F_F_a_3_0 : G6.2.1 (F (F a 3) 0) = G.2.1 (F (F a 3) 0))
    (c_G6_F_F_a_3_1 : G6.2.1 (F (F a 3) 1) = G.2.1 (F (F a 3) 1)) :
    RO (vw (G6.2.1 (F (F a 3) 0))) (aI (G6.2.1 (F (F a 3) 1))) := by simp only [c_G6_F_F_a_3_0, c_G6_F_F_a_3_1]; assumption
theorem v_X10_wouldSet_22_3 {F : Nat → Nat → Nat} (x6 : Int32) (p0 : Int32) (p1 : Int32) (p2 : Int32) (p3 : Int32) (G : XG) (a : Nat) (G6 : XG)
    (oq6 : (x6.toInt = -1 ∧ ¬ ((0 ≤ p0.toInt ∧ p0.toInt < 3) ∧ (0 ≤ p1.toInt ∧ p1.toInt < 30) ∧ (0 ≤ p2.toInt ∧ p2.toInt < 3) ∧ (p3.toInt = -1000 ∨ (-99 ≤ p3.toInt ∧ p3.toInt ≤ 99)))) ∨ ((0 ≤ p0.toInt ∧ p0.toInt < 3) ∧ (0 ≤ p1.toInt ∧ p1.toInt < 30) ∧ (0 ≤ p2.toInt ∧ p2.toInt < 3) ∧ (p3.toInt = -1000 ∨ (-99 ≤ p3.toInt ∧ p3.toInt ≤ 99)) ∧ ((x6.toInt = -2 ∧ cel (vw (G.2.1 (F (F a 3) 0))) p0.toInt p1.toInt 0 = -2000) ∨ (cel (vw (G.2.1 (F (F a 3) 0))) p0.toInt p1.toInt 0 ≠ -2000 ∧ ((x6.toInt = -4 ∧ cel (vw (G.2.1 (F (F a 3) 0))) p0.toInt p1.toInt p2.toInt = p3.toInt) ∨ (x6.toInt = 0 ∧ cel (vw (G.2.1 (F (F a 3) 0))) p0.toInt p1.toInt p2.toInt ≠ p3.toInt ∧ (vw (G6.2.1 (F (F a 5) 0))) = rset (vw (G.2.1 (F (F a 3) 0))) (90 * p0.toInt + 30 * p2.toInt + p1.toInt) p3.toInt ∧ RO (vw (G6.2.1 (F (F a 5) 0))) (aI (G6.2.1 (F (F a 5) 1)))))))))
    (t6 : -4 ≤ x6.toInt ∧ x6.toInt ≤ 0)
    (c13 : 0 ≤ x6.toInt) :
    RO (vw (G6.2.1 (F (F a 5) 0))) (aI (G6.2.1 (F (F a 5) 1))) := by
  rcases oq6 with ⟨h1, h2⟩ | ⟨v1, v2, v3, v4, ⟨h1, h2⟩ | ⟨h0, ⟨h1, h2⟩ | ⟨h1, h2, h3, h4⟩⟩⟩
  · exfalso; omega
  · exfalso; omega
  · exfalso; omega
  · exact h4
theorem v_X10_wouldSet_22_4 {K : Nat → Nat} {F : Nat → Nat → Nat} (a : Nat) (G : XG) (G6 : XG)
    (hF6 : XFr [] [F (F a 5) 0, F (F a 5) 1] [] G G6)
    (bko : BKr K G (G.2.2.1 (F (F a 2) 1)))
    (r_G6_F_F_a_2_1 : G6.2.2.1 (F (F a 2) 1) = G.2.2.1 (F (F a 2) 1)) :
    BKr K G6 (G6.2.2.1 (F (F a 2) 1)) := by
  have hd0 : ∀ p, p ∈ ([] : List (Nat × Nat)) → K p.1 ≠ 9 := fun _ h => by cases h
  rw [r_G6_F_F_a_2_1]
  exact bko.fr hF6 hd0
theorem v_X10_wouldSet_25_5 {K : Nat → Nat} {F : Nat → Nat → Nat} (a : Nat) (G : XG) (G6 : XG) (x6 : Int32) (p0 : Int32) (p1 : Int32) (p2 : Int32) (p3 : Int32) (x22 : Int32)
    (ha : K a = 12)
    (hk9999 : K (F a 11) = 3)
    (hj9999 : F (F a 11) 99 = 0)
    (hk9999a : K (F a 9) = 6)
    (hj9999a : F (F a 9) 99 = 1)
    (hk9999b : K (F (F a 11) 0) = 21)
    (hj9999b : F (F (F a 11) 0) 99 = 100)
    (hk9999c : K (F (F a 11) 1) = 21)
    (hj9999c : F (F (F a 11) 1) 99 = 101)
    (hk9999d : K (F (F a 11) 2) = 24)
    (hj9999d : F (F (F a 11) 2) 99 = 4)
    (hk9999e : K (F (F a 9) 0) = 22)
    (hj9999f : F (F (F a 9) 0) 99 = 10 * 1 + 0)
    (hk9999f : K (F (F a 9) 1) = 22)
    (hj9999h : F (F (F a 9) 1) 99 = 10 * 1 + 1)
    (hk9999g : K (F (F a 9) 2) = 22)
    (hj9999j : F (F (F a 9) 2) 99 = 10 * 1 + 2)
    (hk9999h : K (F (F a 9) 3) = 22)
    (hj9999l : F (F (F a 9) 3) 99 = 10 * 1 + 3)
    (hk9999i : K (F (F a 9) 4) = 23)
    (hj9999n : F (F (F a 9) 4) 99 = 10 * 1 + 4)
    (hk9999j : K (F (F a 9) 5) = 23)
    (hj9999p : F (F (F a 9) 5) 99 = 10 * 1 + 5)
    (hk9999k : K (F a 5) = 8)
    (hj9999q : F (F a 5) 99 = 2)
    (hk9999l : K (F (F a 5) 0) = 20)
    (hj9999s : F (F (F a 5) 0) 99 = 2)
    (hk9999m : K (F (F a 5) 1) = 21)
    (hj9999u : F (F (F a 5) 1) 99 = 2)
    (hk9999n : K (F a 2) = 2)
    (hj9999v : F (F a 2) 99 = 0)
    (hk9999o : K (F (F a 2) 1) = 15)
    (hj9999w : F (F (F a 2) 1) 99 = 1)
    (hk9999p : K (F a 3) = 8)
    (hj9999y : F (F a 3) 99 = 0)
    (hk9999q : K (F (F a 3) 0) = 20)
    (hj9999z26 : F (F (F a 3) 0) 99 = 0)
    (hk9999r : K (F (F a 3) 1) = 21)
    (hj9999z28 : F (F (F a 3) 1) 99 = 0)
    (hF6 : XFr [] [F (F a 5) 0, F (F a 5) 1] [] G G6)
    (bko : BKr K G (G.2.2.1 (F (F a 2) 1)))
    (oq6 : (x6.toInt = -1 ∧ ¬ ((0 ≤ p0.toInt ∧ p0.toInt < 3) ∧ (0 ≤ p1.toInt ∧ p1.toInt < 30) ∧ (0 ≤ p2.toInt ∧ p2.toInt < 3) ∧ (p3.toInt = -1000 ∨ (-99 ≤ p3.toInt ∧ p3.toInt ≤ 99)))) ∨ ((0 ≤ p0.toInt ∧ p0.toInt < 3) ∧ (0 ≤ p1.toInt ∧ p1.toInt < 30) ∧ (0 ≤ p2.toInt ∧ p2.toInt < 3) ∧ (p3.toInt = -1000 ∨ (-99 ≤ p3.toInt ∧ p3.toInt ≤ 99)) ∧ ((x6.toInt = -2 ∧ cel (vw (G.2.1 (F (F a 3) 0))) p0.toInt p1.toInt 0 = -2000) ∨ (cel (vw (G.2.1 (F (F a 3) 0))) p0.toInt p1.toInt 0 ≠ -2000 ∧ ((x6.toInt = -4 ∧ cel (vw (G.2.1 (F (F a 3) 0))) p0.toInt p1.toInt p2.toInt = p3.toInt) ∨ (x6.toInt = 0 ∧ cel (vw (G.2.1 (F (F a 3) 0))) p0.toInt p1.toInt p2.toInt ≠ p3.toInt ∧ (vw (G6.2.1 (F (F a 5) 0))) = rset (vw (G.2.1 (F (F a 3) 0))) (90 * p0.toInt + 30 * p2.toInt + p1.toInt) p3.toInt ∧ RO (vw (G6.2.1 (F (F a 5) 0))) (aI (G6.2.1 (F (F a 5) 1)))))))))
    (oq22 : AnsR ((G.1 a 18).toInt) x22.toInt (gaL G6 (G6.2.2.1 (F (F a 2) 1)) (vw (G.2.1 (F (F a 3) 0))) (vw (G6.2.1 (F (F a 5) 0))) 0 (((G.1 (F a 2) 2).toInt)).toNat))
    (sb : 0 ≤ ((G.1 (F a 2) 2).toInt) ∧ ((G.1 (F a 2) 2).toInt) ≤ 12)
    (t6 : -4 ≤ x6.toInt ∧ x6.toInt ≤ 0)
    (c13 : 0 ≤ x6.toInt)
    (r_G6_F_F_a_2_1 : G6.2.2.1 (F (F a 2) 1) = G.2.2.1 (F (F a 2) 1)) :
    (x22.toInt = -1 ∧ ¬ ((0 ≤ p0.toInt ∧ p0.toInt < 3) ∧ (0 ≤ p1.toInt ∧ p1.toInt < 30) ∧ (0 ≤ p2.toInt ∧ p2.toInt < 3) ∧ (p3.toInt = -1000 ∨ (-99 ≤ p3.toInt ∧ p3.toInt ≤ 99)))) ∨ (((0 ≤ p0.toInt ∧ p0.toInt < 3) ∧ (0 ≤ p1.toInt ∧ p1.toInt < 30) ∧ (0 ≤ p2.toInt ∧ p2.toInt < 3) ∧ (p3.toInt = -1000 ∨ (-99 ≤ p3.toInt ∧ p3.toInt ≤ 99))) ∧ x22.toInt = -2 ∧ cel (vw (G.2.1 (F (F a 3) 0))) p0.toInt p1.toInt 0 = -2000) ∨ (((0 ≤ p0.toInt ∧ p0.toInt < 3) ∧ (0 ≤ p1.toInt ∧ p1.toInt < 30) ∧ (0 ≤ p2.toInt ∧ p2.toInt < 3) ∧ (p3.toInt = -1000 ∨ (-99 ≤ p3.toInt ∧ p3.toInt ≤ 99))) ∧ cel (vw (G.2.1 (F (F a 3) 0))) p0.toInt p1.toInt 0 ≠ -2000 ∧ x22.toInt = -4 ∧ cel (vw (G.2.1 (F (F a 3) 0))) p0.toInt p1.toInt p2.toInt = p3.toInt) ∨ (((0 ≤ p0.toInt ∧ p0.toInt < 3) ∧ (0 ≤ p1.toInt ∧ p1.toInt < 30) ∧ (0 ≤ p2.toInt ∧ p2.toInt < 3) ∧ (p3.toInt = -1000 ∨ (-99 ≤ p3.toInt ∧ p3.toInt ≤ 99))) ∧ cel (vw (G.2.1 (F (F a 3) 0))) p0.toInt p1.toInt 0 ≠ -2000 ∧ cel (vw (G.2.1 (F (F a 3) 0))) p0.toInt p1.toInt p2.toInt ≠ p3.toInt ∧ AnsR ((G.1 a 18).toInt) x22.toInt (gaL G (G.2.2.1 (F (F a 2) 1)) (vw (G.2.1 (F (F a 3) 0))) (rset (vw (G.2.1 (F (F a 3) 0))) (90 * p0.toInt + 30 * p2.toInt + p1.toInt) p3.toInt) 0 (((G.1 (F a 2) 2).toInt)).toNat)) := by
  rcases oq6 with ⟨h1, h2⟩ | ⟨v1, v2, v3, v4, ⟨h1, h2⟩ | ⟨h0, ⟨h1, h2⟩ | ⟨h1, h2, h3, h4⟩⟩⟩
  · first
      | (exfalso; omega)
      | exact Or.inl ⟨h1, fun h => h2 h⟩
  · first
      | (exfalso; omega)
      | exact Or.inr (Or.inl ⟨⟨v1, v2, v3, v4⟩, h1, h2⟩)
  · first
      | (exfalso; omega)
      | exact Or.inr (Or.inr (Or.inl ⟨⟨v1, v2, v3, v4⟩, h0, h1, h2⟩))
  · first
      | (exfalso; omega)
      | (have hd0 : ∀ p, p ∈ ([] : List (Nat × Nat)) → K p.1 ≠ 9 := fun _ h => by cases h
         have hc : ∀ (i q : Nat), i < ((G.1 (F a 2) 2).toInt).toNat → G.2.2.1 (F (F a 2) 1) i = some q → G6.1 q = G.1 q := fun i q hi hq => hF6.rule hd0 (bko i q (by omega) hq).1
         rw [h3, r_G6_F_F_a_2_1, gaL_cg hc] at oq22
         exact Or.inr (Or.inr (Or.inr ⟨⟨v1, v2, v3, v4⟩, h0, h2, oq22⟩)))
theorem v_X10_wouldSet_25_6 {K : Nat → Nat} {F : Nat → Nat → Nat} (a : Nat) (G : XG) (G6 : XG) (x6 : Int32) (p0 : Int32) (p1 : Int32) (p2 : Int32) (p3 : Int32)
    (ha : K a = 12)
    (hk9999 : K (F a 11) = 3)
    (hj9999 : F (F a 11) 99 = 0)
    (hk9999a : K (F a 9) = 6)
    (hj9999a : F (F a 9) 99 = 1)
    (hk9999b : K (F (F a 11) 0) = 21)
    (hj9999b : F (F (F a 11) 0) 99 = 100)
    (hk9999c : K (F (F a 11) 1) = 21)
    (hj9999c : F (F (F a 11) 1) 99 = 101)
    (hk9999d : K (F (F a 11) 2) = 24)
    (hj9999d : F (F (F a 11) 2) 99 = 4)
    (hk9999e : K (F (F a 9) 0) = 22)
    (hj9999f : F (F (F a 9) 0) 99 = 10 * 1 + 0)
    (hk9999f : K (F (F a 9) 1) = 22)
    (hj9999h : F (F (F a 9) 1) 99 = 10 * 1 + 1)
    (hk9999g : K (F (F a 9) 2) = 22)
    (hj9999j : F (F (F a 9) 2) 99 = 10 * 1 + 2)
    (hk9999h : K (F (F a 9) 3) = 22)
    (hj9999l : F (F (F a 9) 3) 99 = 10 * 1 + 3)
    (hk9999i : K (F (F a 9) 4) = 23)
    (hj9999n : F (F (F a 9) 4) 99 = 10 * 1 + 4)
    (hk9999j : K (F (F a 9) 5) = 23)
    (hj9999p : F (F (F a 9) 5) 99 = 10 * 1 + 5)
    (hk9999k : K (F a 5) = 8)
    (hj9999q : F (F a 5) 99 = 2)
    (hk9999l : K (F (F a 5) 0) = 20)
    (hj9999s : F (F (F a 5) 0) 99 = 2)
    (hk9999m : K (F (F a 5) 1) = 21)
    (hj9999u : F (F (F a 5) 1) 99 = 2)
    (hk9999n : K (F a 2) = 2)
    (hj9999v : F (F a 2) 99 = 0)
    (hk9999o : K (F (F a 2) 1) = 15)
    (hj9999w : F (F (F a 2) 1) 99 = 1)
    (hk9999p : K (F a 3) = 8)
    (hj9999y : F (F a 3) 99 = 0)
    (hk9999q : K (F (F a 3) 0) = 20)
    (hj9999z26 : F (F (F a 3) 0) 99 = 0)
    (hk9999r : K (F (F a 3) 1) = 21)
    (hj9999z28 : F (F (F a 3) 1) 99 = 0)
    (hF6 : XFr [] [F (F a 5) 0, F (F a 5) 1] [] G G6)
    (bko : BKr K G (G.2.2.1 (F (F a 2) 1)))
    (oq6 : (x6.toInt = -1 ∧ ¬ ((0 ≤ p0.toInt ∧ p0.toInt < 3) ∧ (0 ≤ p1.toInt ∧ p1.toInt < 30) ∧ (0 ≤ p2.toInt ∧ p2.toInt < 3) ∧ (p3.toInt = -1000 ∨ (-99 ≤ p3.toInt ∧ p3.toInt ≤ 99)))) ∨ ((0 ≤ p0.toInt ∧ p0.toInt < 3) ∧ (0 ≤ p1.toInt ∧ p1.toInt < 30) ∧ (0 ≤ p2.toInt ∧ p2.toInt < 3) ∧ (p3.toInt = -1000 ∨ (-99 ≤ p3.toInt ∧ p3.toInt ≤ 99)) ∧ ((x6.toInt = -2 ∧ cel (vw (G.2.1 (F (F a 3) 0))) p0.toInt p1.toInt 0 = -2000) ∨ (cel (vw (G.2.1 (F (F a 3) 0))) p0.toInt p1.toInt 0 ≠ -2000 ∧ ((x6.toInt = -4 ∧ cel (vw (G.2.1 (F (F a 3) 0))) p0.toInt p1.toInt p2.toInt = p3.toInt) ∨ (x6.toInt = 0 ∧ cel (vw (G.2.1 (F (F a 3) 0))) p0.toInt p1.toInt p2.toInt ≠ p3.toInt ∧ (vw (G6.2.1 (F (F a 5) 0))) = rset (vw (G.2.1 (F (F a 3) 0))) (90 * p0.toInt + 30 * p2.toInt + p1.toInt) p3.toInt ∧ RO (vw (G6.2.1 (F (F a 5) 0))) (aI (G6.2.1 (F (F a 5) 1)))))))))
    (sb : 0 ≤ ((G.1 (F a 2) 2).toInt) ∧ ((G.1 (F a 2) 2).toInt) ≤ 12)
    (t6 : -4 ≤ x6.toInt ∧ x6.toInt ≤ 0)
    (c13 : ¬ (0 ≤ x6.toInt))
    (r_G6_F_F_a_2_1 : G6.2.2.1 (F (F a 2) 1) = G.2.2.1 (F (F a 2) 1)) :
    (x6.toInt = -1 ∧ ¬ ((0 ≤ p0.toInt ∧ p0.toInt < 3) ∧ (0 ≤ p1.toInt ∧ p1.toInt < 30) ∧ (0 ≤ p2.toInt ∧ p2.toInt < 3) ∧ (p3.toInt = -1000 ∨ (-99 ≤ p3.toInt ∧ p3.toInt ≤ 99)))) ∨ (((0 ≤ p0.toInt ∧ p0.toInt < 3) ∧ (0 ≤ p1.toInt ∧ p1.toInt < 30) ∧ (0 ≤ p2.toInt ∧ p2.toInt < 3) ∧ (p3.toInt = -1000 ∨ (-99 ≤ p3.toInt ∧ p3.toInt ≤ 99))) ∧ x6.toInt = -2 ∧ cel (vw (G.2.1 (F (F a 3) 0))) p0.toInt p1.toInt 0 = -2000) ∨ (((0 ≤ p0.toInt ∧ p0.toInt < 3) ∧ (0 ≤ p1.toInt ∧ p1.toInt < 30) ∧ (0 ≤ p2.toInt ∧ p2.toInt < 3) ∧ (p3.toInt = -1000 ∨ (-99 ≤ p3.toInt ∧ p3.toInt ≤ 99))) ∧ cel (vw (G.2.1 (F (F a 3) 0))) p0.toInt p1.toInt 0 ≠ -2000 ∧ x6.toInt = -4 ∧ cel (vw (G.2.1 (F (F a 3) 0))) p0.toInt p1.toInt p2.toInt = p3.toInt) ∨ (((0 ≤ p0.toInt ∧ p0.toInt < 3) ∧ (0 ≤ p1.toInt ∧ p1.toInt < 30) ∧ (0 ≤ p2.toInt ∧ p2.toInt < 3) ∧ (p3.toInt = -1000 ∨ (-99 ≤ p3.toInt ∧ p3.toInt ≤ 99))) ∧ cel (vw (G.2.1 (F (F a 3) 0))) p0.toInt p1.toInt 0 ≠ -2000 ∧ cel (vw (G.2.1 (F (F a 3) 0))) p0.toInt p1.toInt p2.toInt ≠ p3.toInt ∧ AnsR ((G.1 a 18).toInt) x6.toInt (gaL G (G.2.2.1 (F (F a 2) 1)) (vw (G.2.1 (F (F a 3) 0))) (rset (vw (G.2.1 (F (F a 3) 0))) (90 * p0.toInt + 30 * p2.toInt + p1.toInt) p3.toInt) 0 (((G.1 (F a 2) 2).toInt)).toNat)) := by
  rcases oq6 with ⟨h1, h2⟩ | ⟨v1, v2, v3, v4, ⟨h1, h2⟩ | ⟨h0, ⟨h1, h2⟩ | ⟨h1, h2, h3, h4⟩⟩⟩
  · first
      | (exfalso; omega)
      | exact Or.inl ⟨h1, fun h => h2 h⟩
  · first
      | (exfalso; omega)
      | exact Or.inr (Or.inl ⟨⟨v1, v2, v3, v4⟩, h1, h2⟩)
  · first
      | (exfalso; omega)
      | exact Or.inr (Or.inr (Or.inl ⟨⟨v1, v2, v3, v4⟩, h0, h1, h2⟩))
  · first
      | (exfalso; omega)
      | (have hd0 : ∀ p, p ∈ ([] : List (Nat × Nat)) → K p.1 ≠ 9 := fun _ h => by cases h
         have hc : ∀ (i q : Nat), i < ((G.1 (F a 2) 2).toInt).toNat → G.2.2.1 (F (F a 2) 1) i = some q → G6.1 q = G.1 q := fun i q hi hq => hF6.rule hd0 (bko i q (by omega) hq).1
         rw [h3, r_G6_F_F_a_2_1, gaL_cg hc] at oq22
         exact Or.inr (Or.inr (Or.inr ⟨⟨v1, v2, v3, v4⟩, h0, h2, oq22⟩)))
abbrev rm_X10_wouldSet : Room := { frames := 7, cells := 0, slots := 0, locals := 170 }
set_option maxHeartbeats 4000000 in
set_option maxRecDepth 100000 in
theorem c_X10_wouldSet (l : Launch) (E : XE) (K : Nat → Nat) (F : Nat → Nat → Nat) (G : XG) (a : Nat) (p0 : Int32) (p1 : Int32) (p2 : Int32) (p3 : Int32) (ha : K a = 12) (sb : 0 ≤ ((G.1 (F a 2) 2).toInt) ∧ ((G.1 (F a 2) 2).toInt) ≤ 12) (ron : RO (vw (G.2.1 (F (F a 3) 0))) (aI (G.2.1 (F (F a 3) 1)))) (bko : BKr K G (G.2.2.1 (F (F a 2) 1))) : Met l yX10_wouldSet (xw yX10_wouldSet cX10_wouldSet 6 (some .int)) rm_X10_wouldSet (va_Pc [.ref a, .int p0, .int p1, .int p2, .int p3] (XP E K F G)) (XQ E (fun v (u : XG) => ∃ r : Int32, v = .int r ∧ XFr [(F a 11, 3), (F a 9, 6)] [F (F a 11) 0, F (F a 11) 1, F (F a 11) 2, F (F a 9) 0, F (F a 9) 1, F (F a 9) 2, F (F a 9) 3, F (F a 9) 4, F (F a 9) 5, F (F a 5) 0, F (F a 5) 1] [] G u ∧ ((r.toInt = -1 ∧ ¬ ((0 ≤ p0.toInt ∧ p0.toInt < 3) ∧ (0 ≤ p1.toInt ∧ p1.toInt < 30) ∧ (0 ≤ p2.toInt ∧ p2.toInt < 3) ∧ (p3.toInt = -1000 ∨ (-99 ≤ p3.toInt ∧ p3.toInt ≤ 99)))) ∨ (((0 ≤ p0.toInt ∧ p0.toInt < 3) ∧ (0 ≤ p1.toInt ∧ p1.toInt < 30) ∧ (0 ≤ p2.toInt ∧ p2.toInt < 3) ∧ (p3.toInt = -1000 ∨ (-99 ≤ p3.toInt ∧ p3.toInt ≤ 99))) ∧ r.toInt = -2 ∧ cel (vw (G.2.1 (F (F a 3) 0))) p0.toInt p1.toInt 0 = -2000) ∨ (((0 ≤ p0.toInt ∧ p0.toInt < 3) ∧ (0 ≤ p1.toInt ∧ p1.toInt < 30) ∧ (0 ≤ p2.toInt ∧ p2.toInt < 3) ∧ (p3.toInt = -1000 ∨ (-99 ≤ p3.toInt ∧ p3.toInt ≤ 99))) ∧ cel (vw (G.2.1 (F (F a 3) 0))) p0.toInt p1.toInt 0 ≠ -2000 ∧ r.toInt = -4 ∧ cel (vw (G.2.1 (F (F a 3) 0))) p0.toInt p1.toInt p2.toInt = p3.toInt) ∨ (((0 ≤ p0.toInt ∧ p0.toInt < 3) ∧ (0 ≤ p1.toInt ∧ p1.toInt < 30) ∧ (0 ≤ p2.toInt ∧ p2.toInt < 3) ∧ (p3.toInt = -1000 ∨ (-99 ≤ p3.toInt ∧ p3.toInt ≤ 99))) ∧ cel (vw (G.2.1 (F (F a 3) 0))) p0.toInt p1.toInt 0 ≠ -2000 ∧ cel (vw (G.2.1 (F (F a 3) 0))) p0.toInt p1.toInt p2.toInt ≠ p3.toInt ∧ AnsR ((G.1 a 18).toInt) r.toInt (gaL G (G.2.2.1 (F (F a 2) 1)) (vw (G.2.1 (F (F a 3) 0))) (rset (vw (G.2.1 (F (F a 3) 0))) (90 * p0.toInt + 30 * p2.toInt + p1.toInt) p3.toInt) 0 (((G.1 (F a 2) 2).toInt)).toNat)))) (fun u H => TW E K F u H)) 0 0 (xA E) := by
  refine x_enter (by decide) (Nat.le_of_ble_eq_true rfl) ?_
  intro p e s m args below meth c Q S hr hlk hnm hQ hP ls hl
  obtain ⟨hz, hK, hT⟩ := hP
  obtain ⟨hx, hb, -, -, -⟩ := id S
  obtain ⟨H, hT, hS, hgo⟩ : ∃ H : Heap, TW E K F G H ∧ va_S (xA E) s.heap H [] ∧ H = s.heap := ⟨_, hT, va_S.rf, rfl⟩
  rw [← hgo]
  have hl : lv_has ls 6 [(0, .ref a), (1, .int p0), (2, .int p1), (3, .int p2), (4, .int p3)] := hl
  obtain ⟨hk9999, hj9999⟩ := fkX10_11 hT ha
  obtain ⟨hk9999a, hj9999a⟩ := fkX10_9 hT ha
  obtain ⟨hk9999b, hj9999b⟩ := fkX1_0 hT hk9999
  obtain ⟨hk9999c, hj9999c⟩ := fkX1_1 hT hk9999
  obtain ⟨hk9999d, hj9999d⟩ := fkX1_2 hT hk9999
  obtain ⟨hk9999e, hj9999e⟩ := fkX4_0 hT hk9999a
  have hj9999f : F (F (F a 9) 0) 99 = 10 * 1 + 0 := by rw [hj9999e, hj9999a]
  obtain ⟨hk9999f, hj9999g⟩ := fkX4_1 hT hk9999a
  have hj9999h : F (F (F a 9) 1) 99 = 10 * 1 + 1 := by rw [hj9999g, hj9999a]
  obtain ⟨hk9999g, hj9999i⟩ := fkX4_2 hT hk9999a
  have hj9999j : F (F (F a 9) 2) 99 = 10 * 1 + 2 := by rw [hj9999i, hj9999a]
  obtain ⟨hk9999h, hj9999k⟩ := fkX4_3 hT hk9999a
  have hj9999l : F (F (F a 9) 3) 99 = 10 * 1 + 3 := by rw [hj9999k, hj9999a]
  obtain ⟨hk9999i, hj9999m⟩ := fkX4_4 hT hk9999a
  have hj9999n : F (F (F a 9) 4) 99 = 10 * 1 + 4 := by rw [hj9999m, hj9999a]
  obtain ⟨hk9999j, hj9999o⟩ := fkX4_5 hT hk9999a
  have hj9999p : F (F (F a 9) 5) 99 = 10 * 1 + 5 := by rw [hj9999o, hj9999a]
  obtain ⟨hk9999k, hj9999q⟩ := fkX10_5 hT ha
  obtain ⟨hk9999l, hj9999r⟩ := fkX6_0 hT hk9999k
  have hj9999s : F (F (F a 5) 0) 99 = 2 := by rw [hj9999r, hj9999q]
  obtain ⟨hk9999m, hj9999t⟩ := fkX6_1 hT hk9999k
  have hj9999u : F (F (F a 5) 1) 99 = 2 := by rw [hj9999t, hj9999q]
  obtain ⟨hk9999n, hj9999v⟩ := fkX10_2 hT ha
  obtain ⟨hk9999o, hj9999w⟩ := fkX0_1 hT hk9999n
  obtain ⟨hk9999p, hj9999y⟩ := fkX10_3 hT ha
  obtain ⟨hk9999q, hj9999z25⟩ := fkX6_0 hT hk9999p
  have hj9999z26 : F (F (F a 3) 0) 99 = 0 := by rw [hj9999z25, hj9999y]
  obtain ⟨hk9999r, hj9999z27⟩ := fkX6_1 hT hk9999p
  have hj9999z28 : F (F (F a 3) 1) 99 = 0 := by rw [hj9999z27, hj9999y]
  refine lv_aload_n hx hb dX10_wouldSet_0 rfl (lv_at hl 0 rfl) ?_
  refine lv_iload_n hx hb dX10_wouldSet_1 rfl (lv_at hl 1 rfl) ?_
  refine lv_iload_n hx hb dX10_wouldSet_2 rfl (lv_at hl 2 rfl) ?_
  refine lv_iload_n hx hb dX10_wouldSet_3 rfl (lv_at hl 3 rfl) ?_
  refine lv_iload hx hb dX10_wouldSet_4 (lv_at hl 4 rfl) ?_
  refine x_cl0 (x_runV (b := a) (As := [.int p0, .int p1, .int p2, .int p3]) (rest := []) S (c_X10_setOnPaper l E K F G a p0 p1 p2 p3 ha (v_X10_wouldSet_6_1 (F := F) a G ron)) mv_X10_setOnPaper km_X10_210 rfl rfl ⟨Nat.le_of_ble_eq_true rfl, Nat.le_of_ble_eq_true rfl⟩ (rc_12 hK hT ha) hK (fun _ => XP.blind) (fun U hU hW => XP.at hK hz hS hT hU hW) rfl hl.1 (Nat.le_of_ble_eq_true rfl) dX10_wouldSet_6 ⟨Nat.le_of_ble_eq_true rfl, Nat.le_of_ble_eq_true rfl⟩) hS ?_
  rintro _ G6 H locs ⟨x6, rfl, hF6, t6, oq6⟩ hT hS
  have t6 : -4 ≤ x6.toInt ∧ x6.toInt ≤ 0 := t6
  refine lv_istore (lv' := [(5, .int x6), (0, .ref a), (1, .int p0), (2, .int p1), (3, .int p2), (4, .int p3)]) hx hb dX10_wouldSet_9 hl (by decide) rfl (fun ls hl => ?_)
  refine lv_iload hx hb dX10_wouldSet_11 (lv_at hl 0 rfl) ?_
  refine xi_zge (tgt := 21) hx hb (rfl : Int32.toInt x6 = x6.toInt) dX10_wouldSet_13 (by decide) (fun c13 => ?_) (fun c13 => ?_)
  · refine lv_aload_n hx hb dX10_wouldSet_21 rfl (lv_at hl 1 rfl) ?_
    refine x_cl0 (x_runV (b := a) (As := []) (rest := []) S (c_X10_answerOnPaper l E K F G6 a ha (by rw [(show (G6.1 (F a 2) 2).toInt = ((G.1 (F a 2) 2).toInt) from (congrArg Int32.toInt (hF6.1 _ _ xn0)).trans (rfl : Int32.toInt (G.1 (F a 2) 2) = ((G.1 (F a 2) 2).toInt)))] <;> exact (sb)) (v_X10_wouldSet_22_2 (F := F) a G G6 ron (hF6.2.1 _ (xn1 (xne_j hj9999z26 hj9999s (by first | decide | omega)) (xn1 (xne_k hk9999q hk9999m (by decide)) xn0))) (hF6.2.1 _ (xn1 (xne_k hk9999r hk9999l (by decide)) (xn1 (xne_j hj9999z28 hj9999u (by first | decide | omega)) xn0)))) (v_X10_wouldSet_22_3 (F := F) x6 p0 p1 p2 p3 G a G6 oq6 t6 c13) (v_X10_wouldSet_22_4 (K := K) (F := F) a G G6 hF6 bko (hF6.2.2 _ xn0))) mv_X10_answerOnPaper km_X10_352 rfl rfl ⟨Nat.le_of_ble_eq_true rfl, Nat.le_of_ble_eq_true rfl⟩ (rc_12 hK hT ha) hK (fun _ => XP.blind) (fun U hU hW => XP.at hK hz hS hT hU hW) rfl hl.1 (Nat.le_of_ble_eq_true rfl) dX10_wouldSet_22 ⟨Nat.le_of_ble_eq_true rfl, Nat.le_of_ble_eq_true rfl⟩) hS ?_
    rintro _ G22 H locs ⟨x22, rfl, hF22, oq22⟩ hT hS
    have oq22 : AnsR ((G.1 a 18).toInt) x22.toInt (gaL G6 (G6.2.2.1 (F (F a 2) 1)) (vw (G.2.1 (F (F a 3) 0))) (vw (G6.2.1 (F (F a 5) 0))) 0 (((G.1 (F a 2) 2).toInt)).toNat) := by simp only [(show G6.1 a 18 = G.1 a 18 from (hF6.1 _ _ xn0)), (show G6.2.1 (F (F a 3) 0) = G.2.1 (F (F a 3) 0) from (hF6.2.1 _ (xn1 (xne_j hj9999z26 hj9999s (by first | decide | omega)) (xn1 (xne_k hk9999q hk9999m (by decide)) xn0)))), (show G6.1 (F a 2) 2 = G.1 (F a 2) 2 from (hF6.1 _ _ xn0))] at oq22; exact oq22
    exact x_ri hx hb hr hlk hQ (Nat.le_of_ble_eq_true rfl) (Nat.le_of_ble_eq_true rfl) hS dX10_wouldSet_25 G22 ⟨_, rfl, (XFr.call (XFr.call XFr.rf hF6 xm0 (xm1 9 rfl (xm1 10 rfl xm0)) xm0) hF22 (xm1 0 rfl (xm1 1 rfl xm0)) (xm1 0 rfl (xm1 1 rfl (xm1 2 rfl (xm1 3 rfl (xm1 4 rfl (xm1 5 rfl (xm1 6 rfl (xm1 7 rfl (xm1 8 rfl xm0))))))))) xm0), (v_X10_wouldSet_25_5 (K := K) (F := F) a G G6 x6 p0 p1 p2 p3 x22 ha hk9999 hj9999 hk9999a hj9999a hk9999b hj9999b hk9999c hj9999c hk9999d hj9999d hk9999e hj9999f hk9999f hj9999h hk9999g hj9999j hk9999h hj9999l hk9999i hj9999n hk9999j hj9999p hk9999k hj9999q hk9999l hj9999s hk9999m hj9999u hk9999n hj9999v hk9999o hj9999w hk9999p hj9999y hk9999q hj9999z26 hk9999r hj9999z28 hF6 bko oq6 oq22 sb t6 c13 (hF6.2.2 _ xn0))⟩ hT
  · refine lv_iload hx hb dX10_wouldSet_16 (lv_at hl 0 rfl) ?_
    refine lv_goto (tgt := 25) hx hb dX10_wouldSet_18 (by decide) ?_
    exact x_ri hx hb hr hlk hQ (Nat.le_of_ble_eq_true rfl) (Nat.le_of_ble_eq_true rfl) hS dX10_wouldSet_25 G6 ⟨_, rfl, (XFr.call XFr.rf hF6 xm0 (xm1 9 rfl (xm1 10 rfl xm0)) xm0), (v_X10_wouldSet_25_6 (K := K) (F := F) a G G6 x6 p0 p1 p2 p3 ha hk9999 hj9999 hk9999a hj9999a hk9999b hj9999b hk9999c hj9999c hk9999d hj9999d hk9999e hj9999f hk9999f hj9999h hk9999g hj9999j hk9999h hj9999l hk9999i hj9999n hk9999j hj9999p hk9999k hj9999q hk9999l hj9999s hk9999m hj9999u hk9999n hj9999v hk9999o hj9999w hk9999p hj9999y hk9999q hj9999z26 hk9999r hj9999z28 hF6 bko oq6 sb t6 c13 (hF6.2.2 _ xn0))⟩ hT
theorem v_X10_question_27_1 {K : Nat → Nat} {F : Nat → Nat → Nat} (a : Nat) (G : XG) (p0 : Int32) (p1 : Int32) (p2 : Int32)
    (ha : K a = 12)
    (hn5 : (p0.toInt < 0 ∨ 12 ≤ p0.toInt) ∨ G.2.2.1 (F (F a 2) 0) (p0.toInt).toNat = none) :
    (((p0.toInt < 0 ∨ 12 ≤ p0.toInt) ∨ G.2.2.1 (F (F a 2) 0) (p0.toInt).toNat = none) ∧ (-2147483648 : Int) = -2147483648) ∨ (∃ q : Nat, ((0 ≤ p0.toInt ∧ p0.toInt < 12) ∧ G.2.2.1 (F (F a 2) 0) (p0.toInt).toNat = some q) ∧ (-2147483648 : Int) = quS (vw (G.2.1 (F (F a 3) 0))) (G.1 q 0).toInt (G.1 q 2).toInt (G.1 q 3).toInt (G.1 q 4).toInt (G.1 q 5).toInt (G.1 q 6).toInt p1.toInt p2.toInt) := by
  first
    | exact Or.inl ⟨hn5, rfl⟩
    | exact Or.inr ⟨q5, ⟨ht5, hs5⟩, (quS_n (by unfold sbj; omega)).symm⟩
theorem v_X10_question_35_2 {F : Nat → Nat → Nat} (a : Nat) (G : XG)
    (ron : RO (vw (G.2.1 (F (F a 3) 0))) (aI (G.2.1 (F (F a 3) 1)))) :
    RO (vw (G.2.1 (F (F a 3) 0))) (aI (G.2.1 (F (F a 3) 1))) := by exact ron
theorem v_X10_question_35_3 {K : Nat → Nat} {F : Nat → Nat → Nat} (G : XG) (a : Nat) (p0 : Int32) (q5 : Nat)
    (bkn : BKr K G (G.2.2.1 (F (F a 2) 0)))
    (hs5 : G.2.2.1 (F (F a 2) 0) (p0.toInt).toNat = some q5)
    (ht5 : 0 ≤ p0.toInt ∧ p0.toInt < 12) :
    RW (G.1 q5) := by
  exact (bkn p0.toInt.toNat q5 (by omega) hs5).2
theorem v_X10_question_95_4 {F : Nat → Nat → Nat} (a : Nat) (q5 : Nat) (G : XG) (p0 : Int32) (p1 : Int32) (p2 : Int32)
    (hs5 : G.2.2.1 (F (F a 2) 0) (p0.toInt).toNat = some q5)
    (ht5 : 0 ≤ p0.toInt ∧ p0.toInt < 12)
    (c41 : ¬ p2.toInt = 0 ∧ ¬ p2.toInt = 1) :
    (((p0.toInt < 0 ∨ 12 ≤ p0.toInt) ∨ G.2.2.1 (F (F a 2) 0) (p0.toInt).toNat = none) ∧ (-2147483648 : Int) = -2147483648) ∨ (∃ q : Nat, ((0 ≤ p0.toInt ∧ p0.toInt < 12) ∧ G.2.2.1 (F (F a 2) 0) (p0.toInt).toNat = some q) ∧ (-2147483648 : Int) = quS (vw (G.2.1 (F (F a 3) 0))) (G.1 q 0).toInt (G.1 q 2).toInt (G.1 q 3).toInt (G.1 q 4).toInt (G.1 q 5).toInt (G.1 q 6).toInt p1.toInt p2.toInt) := by
  exact Or.inr ⟨q5, ⟨ht5, hs5⟩, (quS_o c41.1 c41.2).symm⟩
theorem v_X10_question_70_5 {K : Nat → Nat} {F : Nat → Nat → Nat} (a : Nat) (q5 : Nat) (G : XG) (p0 : Int32) (p1 : Int32) (x18 : Int32) (p2 : Int32)
    (ha : K a = 12)
    (hs5 : G.2.2.1 (F (F a 2) 0) (p0.toInt).toNat = some q5)
    (ht5 : 0 ≤ p0.toInt ∧ p0.toInt < 12)
    (t18 : ((((((G.1 q5 0).toInt) = 2 ∨ ((G.1 q5 0).toInt) = 4 ∨ ((G.1 q5 0).toInt) = 5) ∧ 0 ≤ p1.toInt ∧ p1.toInt < 30) ∨ (¬ (((G.1 q5 0).toInt) = 2 ∨ ((G.1 q5 0).toInt) = 4 ∨ ((G.1 q5 0).toInt) = 5) ∧ -99 ≤ p1.toInt ∧ p1.toInt ≤ 99)) ∧ x18.toInt = 1) ∨ (¬ (((((G.1 q5 0).toInt) = 2 ∨ ((G.1 q5 0).toInt) = 4 ∨ ((G.1 q5 0).toInt) = 5) ∧ 0 ≤ p1.toInt ∧ p1.toInt < 30) ∨ (¬ (((G.1 q5 0).toInt) = 2 ∨ ((G.1 q5 0).toInt) = 4 ∨ ((G.1 q5 0).toInt) = 5) ∧ -99 ≤ p1.toInt ∧ p1.toInt ≤ 99)) ∧ x18.toInt = 0))
    (c21 : x18.toInt ≠ 0)
    (c41 : p2.toInt = 0) :
    (((p0.toInt < 0 ∨ 12 ≤ p0.toInt) ∨ G.2.2.1 (F (F a 2) 0) (p0.toInt).toNat = none) ∧ (stt (vw (G.2.1 (F (F a 3) 0))) ((G.1 q5 0).toInt) ((G.1 q5 2).toInt) ((G.1 q5 3).toInt) ((G.1 q5 4).toInt) (p1.toInt)) = -2147483648) ∨ (∃ q : Nat, ((0 ≤ p0.toInt ∧ p0.toInt < 12) ∧ G.2.2.1 (F (F a 2) 0) (p0.toInt).toNat = some q) ∧ (stt (vw (G.2.1 (F (F a 3) 0))) ((G.1 q5 0).toInt) ((G.1 q5 2).toInt) ((G.1 q5 3).toInt) ((G.1 q5 4).toInt) (p1.toInt)) = quS (vw (G.2.1 (F (F a 3) 0))) (G.1 q 0).toInt (G.1 q 2).toInt (G.1 q 3).toInt (G.1 q 4).toInt (G.1 q 5).toInt (G.1 q 6).toInt p1.toInt p2.toInt) := by
  exact Or.inr ⟨q5, ⟨ht5, hs5⟩, (quS_0 (by unfold sbj; omega) c41).symm⟩
theorem v_X10_question_80_6 {F : Nat → Nat → Nat} (a : Nat) (G : XG)
    (ron : RO (vw (G.2.1 (F (F a 3) 0))) (aI (G.2.1 (F (F a 3) 1)))) :
    RO (vw (G.2.1 (F (F a 3) 0))) (aI (G.2.1 (F (F a 3) 1))) := by exact ron
theorem v_X10_question_80_7 {K : Nat → Nat} {F : Nat → Nat → Nat} (G : XG) (a : Nat) (p0 : Int32) (q5 : Nat)
    (bkn : BKr K G (G.2.2.1 (F (F a 2) 0)))
    (hs5 : G.2.2.1 (F (F a 2) 0) (p0.toInt).toNat = some q5)
    (ht5 : 0 ≤ p0.toInt ∧ p0.toInt < 12) :
    RW (G.1 q5) := by
  exact (bkn p0.toInt.toNat q5 (by omega) hs5).2
theorem v_X10_question_91_8 {K : Nat → Nat} {F : Nat → Nat → Nat} (a : Nat) (q5 : Nat) (G : XG) (p0 : Int32) (p1 : Int32) (x18 : Int32) (p2 : Int32) (x80 : Int32)
    (ha : K a = 12)
    (hs5 : G.2.2.1 (F (F a 2) 0) (p0.toInt).toNat = some q5)
    (ht5 : 0 ≤ p0.toInt ∧ p0.toInt < 12)
    (t18 : ((((((G.1 q5 0).toInt) = 2 ∨ ((G.1 q5 0).toInt) = 4 ∨ ((G.1 q5 0).toInt) = 5) ∧ 0 ≤ p1.toInt ∧ p1.toInt < 30) ∨ (¬ (((G.1 q5 0).toInt) = 2 ∨ ((G.1 q5 0).toInt) = 4 ∨ ((G.1 q5 0).toInt) = 5) ∧ -99 ≤ p1.toInt ∧ p1.toInt ≤ 99)) ∧ x18.toInt = 1) ∨ (¬ (((((G.1 q5 0).toInt) = 2 ∨ ((G.1 q5 0).toInt) = 4 ∨ ((G.1 q5 0).toInt) = 5) ∧ 0 ≤ p1.toInt ∧ p1.toInt < 30) ∨ (¬ (((G.1 q5 0).toInt) = 2 ∨ ((G.1 q5 0).toInt) = 4 ∨ ((G.1 q5 0).toInt) = 5) ∧ -99 ≤ p1.toInt ∧ p1.toInt ≤ 99)) ∧ x18.toInt = 0))
    (c21 : x18.toInt ≠ 0)
    (c41 : p2.toInt = 1)
    (t80 : x80.toInt = (flq (vw (G.2.1 (F (F a 3) 0))) ((G.1 q5 0).toInt) ((G.1 q5 2).toInt) ((G.1 q5 3).toInt) ((G.1 q5 5).toInt) ((G.1 q5 6).toInt) (p1.toInt) (stt (vw (G.2.1 (F (F a 3) 0))) ((G.1 q5 0).toInt) ((G.1 q5 2).toInt) ((G.1 q5 3).toInt) ((G.1 q5 4).toInt) (p1.toInt))))
    (f21 : x80.toInt = 0 ∨ x80.toInt = 1)
    (c83 : x80.toInt = 0) :
    (((p0.toInt < 0 ∨ 12 ≤ p0.toInt) ∨ G.2.2.1 (F (F a 2) 0) (p0.toInt).toNat = none) ∧ (0 : Int) = -2147483648) ∨ (∃ q : Nat, ((0 ≤ p0.toInt ∧ p0.toInt < 12) ∧ G.2.2.1 (F (F a 2) 0) (p0.toInt).toNat = some q) ∧ (0 : Int) = quS (vw (G.2.1 (F (F a 3) 0))) (G.1 q 0).toInt (G.1 q 2).toInt (G.1 q 3).toInt (G.1 q 4).toInt (G.1 q 5).toInt (G.1 q 6).toInt p1.toInt p2.toInt) := by
  exact Or.inr ⟨q5, ⟨ht5, hs5⟩, (by rw [quS_1 (by unfold sbj; omega) c41, ← t80]; omega)⟩
theorem v_X10_question_91_9 {K : Nat → Nat} {F : Nat → Nat → Nat} (a : Nat) (q5 : Nat) (G : XG) (p0 : Int32) (p1 : Int32) (x18 : Int32) (p2 : Int32) (x80 : Int32)
    (ha : K a = 12)
    (hs5 : G.2.2.1 (F (F a 2) 0) (p0.toInt).toNat = some q5)
    (ht5 : 0 ≤ p0.toInt ∧ p0.toInt < 12)
    (t18 : ((((((G.1 q5 0).toInt) = 2 ∨ ((G.1 q5 0).toInt) = 4 ∨ ((G.1 q5 0).toInt) = 5) ∧ 0 ≤ p1.toInt ∧ p1.toInt < 30) ∨ (¬ (((G.1 q5 0).toInt) = 2 ∨ ((G.1 q5 0).toInt) = 4 ∨ ((G.1 q5 0).toInt) = 5) ∧ -99 ≤ p1.toInt ∧ p1.toInt ≤ 99)) ∧ x18.toInt = 1) ∨ (¬ (((((G.1 q5 0).toInt) = 2 ∨ ((G.1 q5 0).toInt) = 4 ∨ ((G.1 q5 0).toInt) = 5) ∧ 0 ≤ p1.toInt ∧ p1.toInt < 30) ∨ (¬ (((G.1 q5 0).toInt) = 2 ∨ ((G.1 q5 0).toInt) = 4 ∨ ((G.1 q5 0).toInt) = 5) ∧ -99 ≤ p1.toInt ∧ p1.toInt ≤ 99)) ∧ x18.toInt = 0))
    (c21 : x18.toInt ≠ 0)
    (c41 : p2.toInt = 1)
    (t80 : x80.toInt = (flq (vw (G.2.1 (F (F a 3) 0))) ((G.1 q5 0).toInt) ((G.1 q5 2).toInt) ((G.1 q5 3).toInt) ((G.1 q5 5).toInt) ((G.1 q5 6).toInt) (p1.toInt) (stt (vw (G.2.1 (F (F a 3) 0))) ((G.1 q5 0).toInt) ((G.1 q5 2).toInt) ((G.1 q5 3).toInt) ((G.1 q5 4).toInt) (p1.toInt))))
    (f21 : x80.toInt = 0 ∨ x80.toInt = 1)
    (c83 : ¬ (x80.toInt = 0)) :
    (((p0.toInt < 0 ∨ 12 ≤ p0.toInt) ∨ G.2.2.1 (F (F a 2) 0) (p0.toInt).toNat = none) ∧ (1 : Int) = -2147483648) ∨ (∃ q : Nat, ((0 ≤ p0.toInt ∧ p0.toInt < 12) ∧ G.2.2.1 (F (F a 2) 0) (p0.toInt).toNat = some q) ∧ (1 : Int) = quS (vw (G.2.1 (F (F a 3) 0))) (G.1 q 0).toInt (G.1 q 2).toInt (G.1 q 3).toInt (G.1 q 4).toInt (G.1 q 5).toInt (G.1 q 6).toInt p1.toInt p2.toInt) := by
  exact Or.inr ⟨q5, ⟨ht5, hs5⟩, (by rw [quS_1 (by unfold sbj; omega) c41, ← t80]; omega)⟩
theorem v_X10_question_27_10 {K : Nat → Nat} {F : Nat → Nat → Nat} (a : Nat) (q5 : Nat) (G : XG) (p0 : Int32) (p1 : Int32) (x18 : Int32) (p2 : Int32)
    (ha : K a = 12)
    (hs5 : G.2.2.1 (F (F a 2) 0) (p0.toInt).toNat = some q5)
    (ht5 : 0 ≤ p0.toInt ∧ p0.toInt < 12)
    (t18 : ((((((G.1 q5 0).toInt) = 2 ∨ ((G.1 q5 0).toInt) = 4 ∨ ((G.1 q5 0).toInt) = 5) ∧ 0 ≤ p1.toInt ∧ p1.toInt < 30) ∨ (¬ (((G.1 q5 0).toInt) = 2 ∨ ((G.1 q5 0).toInt) = 4 ∨ ((G.1 q5 0).toInt) = 5) ∧ -99 ≤ p1.toInt ∧ p1.toInt ≤ 99)) ∧ x18.toInt = 1) ∨ (¬ (((((G.1 q5 0).toInt) = 2 ∨ ((G.1 q5 0).toInt) = 4 ∨ ((G.1 q5 0).toInt) = 5) ∧ 0 ≤ p1.toInt ∧ p1.toInt < 30) ∨ (¬ (((G.1 q5 0).toInt) = 2 ∨ ((G.1 q5 0).toInt) = 4 ∨ ((G.1 q5 0).toInt) = 5) ∧ -99 ≤ p1.toInt ∧ p1.toInt ≤ 99)) ∧ x18.toInt = 0))
    (c21 : ¬ (x18.toInt ≠ 0)) :
    (((p0.toInt < 0 ∨ 12 ≤ p0.toInt) ∨ G.2.2.1 (F (F a 2) 0) (p0.toInt).toNat = none) ∧ (-2147483648 : Int) = -2147483648) ∨ (∃ q : Nat, ((0 ≤ p0.toInt ∧ p0.toInt < 12) ∧ G.2.2.1 (F (F a 2) 0) (p0.toInt).toNat = some q) ∧ (-2147483648 : Int) = quS (vw (G.2.1 (F (F a 3) 0))) (G.1 q 0).toInt (G.1 q 2).toInt (G.1 q 3).toInt (G.1 q 4).toInt (G.1 q 5).toInt (G.1 q 6).toInt p1.toInt p2.toInt) := by
  first
    | exact Or.inl ⟨hn5, rfl⟩
    | exact Or.inr ⟨q5, ⟨ht5, hs5⟩, (quS_n (by unfold sbj; omega)).symm⟩
theorem v_X10_depth_37_1 {K : Nat → Nat} {F : Nat → Nat → Nat} (a : Nat) (G : XG) (p0 : Int32) (p1 : Int32)
    (ha : K a = 12)
    (hn5 : (p0.toInt < 0 ∨ 12 ≤ p0.toInt) ∨ G.2.2.1 (F (F a 2) 0) (p0.toInt).toNat = none) :
    (((p0.toInt < 0 ∨ 12 ≤ p0.toInt) ∨ G.2.2.1 (F (F a 2) 0) (p0.toInt).toNat = none) ∧ (-1 : Int) = -1) ∨ (∃ q : Nat, ((0 ≤ p0.toInt ∧ p0.toInt < 12) ∧ G.2.2.1 (F (F a 2) 0) (p0.toInt).toNat = some q) ∧ (-1 : Int) = dpS (vw (G.2.1 (F (F a 3) 0))) (G.1 q 0).toInt (G.1 q 2).toInt (G.1 q 3).toInt p1.toInt) := by
  first
    | exact Or.inl ⟨hn5, rfl⟩
    | exact Or.inr ⟨q5, ⟨ht5, hs5⟩, (dpS_n (by omega)).symm⟩
theorem v_X10_depth_37_2 {K : Nat → Nat} {F : Nat → Nat → Nat} (a : Nat) (q5 : Nat) (G : XG) (p0 : Int32) (p1 : Int32)
    (ha : K a = 12)
    (hs5 : G.2.2.1 (F (F a 2) 0) (p0.toInt).toNat = some q5)
    (ht5 : 0 ≤ p0.toInt ∧ p0.toInt < 12)
    (c18 : ((G.1 q5 0).toInt) ≠ (5 : Int)) :
    (((p0.toInt < 0 ∨ 12 ≤ p0.toInt) ∨ G.2.2.1 (F (F a 2) 0) (p0.toInt).toNat = none) ∧ (-1 : Int) = -1) ∨ (∃ q : Nat, ((0 ≤ p0.toInt ∧ p0.toInt < 12) ∧ G.2.2.1 (F (F a 2) 0) (p0.toInt).toNat = some q) ∧ (-1 : Int) = dpS (vw (G.2.1 (F (F a 3) 0))) (G.1 q 0).toInt (G.1 q 2).toInt (G.1 q 3).toInt p1.toInt) := by
  first
    | exact Or.inl ⟨hn5, rfl⟩
    | exact Or.inr ⟨q5, ⟨ht5, hs5⟩, (dpS_n (by omega)).symm⟩
theorem v_X10_depth_30_3 {F : Nat → Nat → Nat} (a : Nat) (G : XG)
    (ron : RO (vw (G.2.1 (F (F a 3) 0))) (aI (G.2.1 (F (F a 3) 1)))) :
    RO (vw (G.2.1 (F (F a 3) 0))) (aI (G.2.1 (F (F a 3) 1))) := by exact ron
theorem v_X10_depth_101_4 {K : Nat → Nat} {F : Nat → Nat → Nat} (a : Nat) (q5 : Nat) (G : XG) (p0 : Int32) (p1 : Int32) (l5_44 : Int32) (l4_44 : Int32) (x30 : Int32) (N44 : Nat)
    (ha : K a = 12)
    (hs5 : G.2.2.1 (F (F a 2) 0) (p0.toInt).toNat = some q5)
    (dp : dpF (vw (G.2.1 (F (F a 3) 0))) ((G.1 q5 2).toInt) ((G.1 q5 3).toInt) 31 0 (p1.toInt) = dpF (vw (G.2.1 (F (F a 3) 0))) ((G.1 q5 2).toInt) ((G.1 q5 3).toInt) (31 - l5_44.toInt).toNat (l5_44.toInt) (l4_44.toInt))
    (ht5 : 0 ≤ p0.toInt ∧ p0.toInt < 12)
    (c18 : ¬ (((G.1 q5 0).toInt) ≠ (5 : Int)))
    (t30 : (x30.toInt = 1 ∧ (cel (vw (G.2.1 (F (F a 3) 0))) ((G.1 q5 2).toInt) (p1.toInt) 0) ≠ -2000) ∨ (x30.toInt = 0 ∧ (cel (vw (G.2.1 (F (F a 3) 0))) ((G.1 q5 2).toInt) (p1.toInt) 0) = -2000))
    (c33 : x30.toInt ≠ 0)
    (I44_0 : 0 ≤ l5_44.toInt ∧ l5_44.toInt ≤ 31)
    (hm44 : 100 - l5_44.toInt < (((N44) + 1 : Nat) : Int))
    (c48 : (30 : Int) < l5_44.toInt) :
    (((p0.toInt < 0 ∨ 12 ≤ p0.toInt) ∨ G.2.2.1 (F (F a 2) 0) (p0.toInt).toNat = none) ∧ (-2 : Int) = -1) ∨ (∃ q : Nat, ((0 ≤ p0.toInt ∧ p0.toInt < 12) ∧ G.2.2.1 (F (F a 2) 0) (p0.toInt).toNat = some q) ∧ (-2 : Int) = dpS (vw (G.2.1 (F (F a 3) 0))) (G.1 q 0).toInt (G.1 q 2).toInt (G.1 q 3).toInt p1.toInt) := by
  have e : (31 - l5_44.toInt).toNat = 0 := by omega
  rw [e] at dp
  exact Or.inr ⟨q5, ⟨ht5, hs5⟩, ((dpS_i (by omega)).trans dp).symm⟩
theorem v_X10_depth_80_5 {F : Nat → Nat → Nat} (a : Nat) (G : XG)
    (ron : RO (vw (G.2.1 (F (F a 3) 0))) (aI (G.2.1 (F (F a 3) 1)))) :
    RO (vw (G.2.1 (F (F a 3) 0))) (aI (G.2.1 (F (F a 3) 1))) := by exact ron
theorem v_X10_depth_96_6 {K : Nat → Nat} {F : Nat → Nat → Nat} (a : Nat) (q5 : Nat) (G : XG) (p0 : Int32) (p1 : Int32) (l5_44 : Int32) (l4_44 : Int32) (x30 : Int32) (N44 : Nat) (x80 : Int32)
    (ha : K a = 12)
    (hs5 : G.2.2.1 (F (F a 2) 0) (p0.toInt).toNat = some q5)
    (dp : dpF (vw (G.2.1 (F (F a 3) 0))) ((G.1 q5 2).toInt) ((G.1 q5 3).toInt) 31 0 (p1.toInt) = dpF (vw (G.2.1 (F (F a 3) 0))) ((G.1 q5 2).toInt) ((G.1 q5 3).toInt) (31 - l5_44.toInt).toNat (l5_44.toInt) (l4_44.toInt))
    (ht5 : 0 ≤ p0.toInt ∧ p0.toInt < 12)
    (c18 : ¬ (((G.1 q5 0).toInt) ≠ (5 : Int)))
    (t30 : (x30.toInt = 1 ∧ (cel (vw (G.2.1 (F (F a 3) 0))) ((G.1 q5 2).toInt) (p1.toInt) 0) ≠ -2000) ∨ (x30.toInt = 0 ∧ (cel (vw (G.2.1 (F (F a 3) 0))) ((G.1 q5 2).toInt) (p1.toInt) 0) = -2000))
    (c33 : x30.toInt ≠ 0)
    (I44_0 : 0 ≤ l5_44.toInt ∧ l5_44.toInt ≤ 31)
    (hm44 : 100 - l5_44.toInt < (((N44) + 1 : Nat) : Int))
    (c48 : ¬ ((30 : Int) < l5_44.toInt))
    (t80 : (x80.toInt = 1 ∧ (cel (vw (G.2.1 (F (F a 3) 0))) ((G.1 q5 2).toInt) (cel (vw (G.2.1 (F (F a 3) 0))) ((G.1 q5 2).toInt) (l4_44.toInt) ((G.1 q5 3).toInt)) 0) ≠ -2000) ∨ (x80.toInt = 0 ∧ (cel (vw (G.2.1 (F (F a 3) 0))) ((G.1 q5 2).toInt) (cel (vw (G.2.1 (F (F a 3) 0))) ((G.1 q5 2).toInt) (l4_44.toInt) ((G.1 q5 3).toInt)) 0) = -2000))
    (c83 : x80.toInt ≠ 0) :
    dpF (vw (G.2.1 (F (F a 3) 0))) ((G.1 q5 2).toInt) ((G.1 q5 3).toInt) 31 0 (p1.toInt) = dpF (vw (G.2.1 (F (F a 3) 0))) ((G.1 q5 2).toInt) ((G.1 q5 3).toInt) (31 - (l5_44.toInt + 1)).toNat (l5_44.toInt + 1) ((cel (vw (G.2.1 (F (F a 3) 0))) ((G.1 q5 2).toInt) (l4_44.toInt) ((G.1 q5 3).toInt))) := by
  have e : (31 - l5_44.toInt).toNat = (31 - (l5_44.toInt + 1)).toNat + 1 := by omega
  rw [e] at dp
  exact dp.trans (dpF_s (by omega))
theorem v_X10_depth_88_7 {K : Nat → Nat} {F : Nat → Nat → Nat} (a : Nat) (q5 : Nat) (G : XG) (p0 : Int32) (p1 : Int32) (l5_44 : Int32) (l4_44 : Int32) (x30 : Int32) (N44 : Nat) (x80 : Int32)
    (ha : K a = 12)
    (hs5 : G.2.2.1 (F (F a 2) 0) (p0.toInt).toNat = some q5)
    (dp : dpF (vw (G.2.1 (F (F a 3) 0))) ((G.1 q5 2).toInt) ((G.1 q5 3).toInt) 31 0 (p1.toInt) = dpF (vw (G.2.1 (F (F a 3) 0))) ((G.1 q5 2).toInt) ((G.1 q5 3).toInt) (31 - l5_44.toInt).toNat (l5_44.toInt) (l4_44.toInt))
    (ht5 : 0 ≤ p0.toInt ∧ p0.toInt < 12)
    (c18 : ¬ (((G.1 q5 0).toInt) ≠ (5 : Int)))
    (t30 : (x30.toInt = 1 ∧ (cel (vw (G.2.1 (F (F a 3) 0))) ((G.1 q5 2).toInt) (p1.toInt) 0) ≠ -2000) ∨ (x30.toInt = 0 ∧ (cel (vw (G.2.1 (F (F a 3) 0))) ((G.1 q5 2).toInt) (p1.toInt) 0) = -2000))
    (c33 : x30.toInt ≠ 0)
    (I44_0 : 0 ≤ l5_44.toInt ∧ l5_44.toInt ≤ 31)
    (hm44 : 100 - l5_44.toInt < (((N44) + 1 : Nat) : Int))
    (c48 : ¬ ((30 : Int) < l5_44.toInt))
    (t80 : (x80.toInt = 1 ∧ (cel (vw (G.2.1 (F (F a 3) 0))) ((G.1 q5 2).toInt) (cel (vw (G.2.1 (F (F a 3) 0))) ((G.1 q5 2).toInt) (l4_44.toInt) ((G.1 q5 3).toInt)) 0) ≠ -2000) ∨ (x80.toInt = 0 ∧ (cel (vw (G.2.1 (F (F a 3) 0))) ((G.1 q5 2).toInt) (cel (vw (G.2.1 (F (F a 3) 0))) ((G.1 q5 2).toInt) (l4_44.toInt) ((G.1 q5 3).toInt)) 0) = -2000))
    (c83 : ¬ (x80.toInt ≠ 0)) :
    (((p0.toInt < 0 ∨ 12 ≤ p0.toInt) ∨ G.2.2.1 (F (F a 2) 0) (p0.toInt).toNat = none) ∧ l5_44.toInt = -1) ∨ (∃ q : Nat, ((0 ≤ p0.toInt ∧ p0.toInt < 12) ∧ G.2.2.1 (F (F a 2) 0) (p0.toInt).toNat = some q) ∧ l5_44.toInt = dpS (vw (G.2.1 (F (F a 3) 0))) (G.1 q 0).toInt (G.1 q 2).toInt (G.1 q 3).toInt p1.toInt) := by
  have e : (31 - l5_44.toInt).toNat = (30 - l5_44.toInt).toNat + 1 := by omega
  rw [e] at dp
  exact Or.inr ⟨q5, ⟨ht5, hs5⟩, ((dpS_i (by omega)).trans (dp.trans (dpF_o (by omega)))).symm⟩
theorem v_X10_depth_42_8 {F : Nat → Nat → Nat} (a : Nat) (q5 : Nat) (G : XG) (p1 : Int32) :
    dpF (vw (G.2.1 (F (F a 3) 0))) ((G.1 q5 2).toInt) ((G.1 q5 3).toInt) 31 0 (p1.toInt) = dpF (vw (G.2.1 (F (F a 3) 0))) ((G.1 q5 2).toInt) ((G.1 q5 3).toInt) (31 - (0 : Int)).toNat (0 : Int) (p1.toInt) := by
  have e : ((31 : Int) - (0 : Int)).toNat = 31 := by decide
  rw [e]
theorem v_X10_depth_37_9 {K : Nat → Nat} {F : Nat → Nat → Nat} (a : Nat) (q5 : Nat) (G : XG) (p0 : Int32) (x30 : Int32) (p1 : Int32)
    (ha : K a = 12)
    (hs5 : G.2.2.1 (F (F a 2) 0) (p0.toInt).toNat = some q5)
    (ht5 : 0 ≤ p0.toInt ∧ p0.toInt < 12)
    (c18 : ¬ (((G.1 q5 0).toInt) ≠ (5 : Int)))
    (t30 : (x30.toInt = 1 ∧ (cel (vw (G.2.1 (F (F a 3) 0))) ((G.1 q5 2).toInt) (p1.toInt) 0) ≠ -2000) ∨ (x30.toInt = 0 ∧ (cel (vw (G.2.1 (F (F a 3) 0))) ((G.1 q5 2).toInt) (p1.toInt) 0) = -2000))
    (c33 : ¬ (x30.toInt ≠ 0)) :
    (((p0.toInt < 0 ∨ 12 ≤ p0.toInt) ∨ G.2.2.1 (F (F a 2) 0) (p0.toInt).toNat = none) ∧ (-1 : Int) = -1) ∨ (∃ q : Nat, ((0 ≤ p0.toInt ∧ p0.toInt < 12) ∧ G.2.2.1 (F (F a 2) 0) (p0.toInt).toNat = some q) ∧ (-1 : Int) = dpS (vw (G.2.1 (F (F a 3) 0))) (G.1 q 0).toInt (G.1 q 2).toInt (G.1 q 3).toInt p1.toInt) := by
  first
    | exact Or.inl ⟨hn5, rfl⟩
    | exact Or.inr ⟨q5, ⟨ht5, hs5⟩, (dpS_n (by omega)).symm⟩
theorem v_X10_changedSince_72_1 {K : Nat → Nat} {F : Nat → Nat → Nat} (a : Nat) (p0 : Nat) (G : XG) (l2_4 : Int32) (l3_4 : Int32) (N4 : Nat)
    (ha : K a = 12)
    (hp0 : K p0 = 8)
    (pc : l2_4.toInt = smS (fun j => chQ G (G.2.2.1 (F (F a 2) 0)) (vw (G.2.1 (F p0 0))) (qtI G F (F a 8) j)) 0 l3_4.toInt)
    (w8 : 0 ≤ ((G.1 (F a 8) 6).toInt) ∧ ((G.1 (F a 8) 6).toInt) ≤ 1080)
    (I4_0 : 0 ≤ l3_4.toInt ∧ l3_4.toInt ≤ ((G.1 (F a 8) 6).toInt))
    (I4_1 : 0 ≤ l2_4.toInt ∧ l2_4.toInt ≤ l3_4.toInt)
    (hm4 : 5000 - l3_4.toInt < (((N4) + 1 : Nat) : Int))
    (c12 : ((G.1 (F a 8) 6).toInt) ≤ l3_4.toInt) :
    l2_4.toInt = smQ (chQ G (G.2.2.1 (F (F a 2) 0)) (vw (G.2.1 (F p0 0)))) (qL G F (F a 8)) := by
  rw [pc, show l3_4.toInt = (G.1 (F a 8) 6).toInt from by omega, smS_qL]
theorem v_X10_changedSince_68_2 {K : Nat → Nat} {F : Nat → Nat → Nat} (a : Nat) (p0 : Nat) (G : XG) (l2_4 : Int32) (l3_4 : Int32) (x24 : Int32) (N4 : Nat)
    (ha : K a = 12)
    (hp0 : K p0 = 8)
    (pc : l2_4.toInt = smS (fun j => chQ G (G.2.2.1 (F (F a 2) 0)) (vw (G.2.1 (F p0 0))) (qtI G F (F a 8) j)) 0 l3_4.toInt)
    (hn27 : (x24.toInt < 0 ∨ 12 ≤ x24.toInt) ∨ G.2.2.1 (F (F a 2) 0) (x24.toInt).toNat = none)
    (w8 : 0 ≤ ((G.1 (F a 8) 6).toInt) ∧ ((G.1 (F a 8) 6).toInt) ≤ 1080)
    (I4_0 : 0 ≤ l3_4.toInt ∧ l3_4.toInt ≤ ((G.1 (F a 8) 6).toInt))
    (I4_1 : 0 ≤ l2_4.toInt ∧ l2_4.toInt ≤ l3_4.toInt)
    (hm4 : 5000 - l3_4.toInt < (((N4) + 1 : Nat) : Int))
    (c12 : ¬ (((G.1 (F a 8) 6).toInt) ≤ l3_4.toInt))
    (t24 : ((0 ≤ l3_4.toInt ∧ l3_4.toInt < ((G.1 (F a 8) 6).toInt) ∧ l3_4.toInt < 1080) ∧ x24.toInt = (aI (G.2.1 (F (F a 8) 0)) (l3_4.toInt))) ∨ (¬ (0 ≤ l3_4.toInt ∧ l3_4.toInt < ((G.1 (F a 8) 6).toInt) ∧ l3_4.toInt < 1080) ∧ x24.toInt = -1)) :
    l2_4.toInt = smS (fun j => chQ G (G.2.2.1 (F (F a 2) 0)) (vw (G.2.1 (F p0 0))) (qtI G F (F a 8) j)) 0 (l3_4.toInt + 1) := by
  have e24 : x24.toInt = aI (G.2.1 (F (F a 8) 0)) l3_4.toInt := by omega
  rw [smS_s (by omega)]
  first
    | (rw [chQ_n (x := qtI G F (F a 8) l3_4.toInt) (z := x24.toInt) e24.symm hn27]; omega)
    | (have e45 : x45.toInt = aI (G.2.1 (F (F a 8) 1)) l3_4.toInt := by omega
       have e56 : x56.toInt = aI (G.2.1 (F (F a 8) 3)) l3_4.toInt := by omega
       have k := chQ_y (G := G) (v := vw (G.2.1 (F p0 0))) (x := qtI G F (F a 8) l3_4.toInt) e24.symm ht27 hs27 e45.symm e56.symm t48
       omega)
theorem v_X10_changedSince_48_3 {F : Nat → Nat → Nat} (p0 : Nat) (G : XG)
    (rox : RO (vw (G.2.1 (F p0 0))) (aI (G.2.1 (F p0 1)))) :
    RO (vw (G.2.1 (F p0 0))) (aI (G.2.1 (F p0 1))) := by exact rox
theorem v_X10_changedSince_48_4 {K : Nat → Nat} {F : Nat → Nat → Nat} (G : XG) (a : Nat) (x24 : Int32) (q27 : Nat) (l3_4 : Int32)
    (bkn : BKr K G (G.2.2.1 (F (F a 2) 0)))
    (hs27 : G.2.2.1 (F (F a 2) 0) (x24.toInt).toNat = some q27)
    (t24 : ((0 ≤ l3_4.toInt ∧ l3_4.toInt < ((G.1 (F a 8) 6).toInt) ∧ l3_4.toInt < 1080) ∧ x24.toInt = (aI (G.2.1 (F (F a 8) 0)) (l3_4.toInt))) ∨ (¬ (0 ≤ l3_4.toInt ∧ l3_4.toInt < ((G.1 (F a 8) 6).toInt) ∧ l3_4.toInt < 1080) ∧ x24.toInt = -1))
    (ht27 : 0 ≤ x24.toInt ∧ x24.toInt < 12) :
    RW (G.1 q27) := by
  exact (bkn x24.toInt.toNat q27 (by omega) hs27).2
theorem v_X10_changedSince_68_5 {K : Nat → Nat} {F : Nat → Nat → Nat} (a : Nat) (p0 : Nat) (q27 : Nat) (G : XG) (l2_4 : Int32) (l3_4 : Int32) (x24 : Int32) (x48 : Int32) (x45 : Int32) (N4 : Nat) (x56 : Int32)
    (ha : K a = 12)
    (hp0 : K p0 = 8)
    (pc : l2_4.toInt = smS (fun j => chQ G (G.2.2.1 (F (F a 2) 0)) (vw (G.2.1 (F p0 0))) (qtI G F (F a 8) j)) 0 l3_4.toInt)
    (hs27 : G.2.2.1 (F (F a 2) 0) (x24.toInt).toNat = some q27)
    (t48 : x48.toInt = (stt (vw (G.2.1 (F p0 0))) ((G.1 q27 0).toInt) ((G.1 q27 2).toInt) ((G.1 q27 3).toInt) ((G.1 q27 4).toInt) (x45.toInt)))
    (w8 : 0 ≤ ((G.1 (F a 8) 6).toInt) ∧ ((G.1 (F a 8) 6).toInt) ≤ 1080)
    (I4_0 : 0 ≤ l3_4.toInt ∧ l3_4.toInt ≤ ((G.1 (F a 8) 6).toInt))
    (I4_1 : 0 ≤ l2_4.toInt ∧ l2_4.toInt ≤ l3_4.toInt)
    (hm4 : 5000 - l3_4.toInt < (((N4) + 1 : Nat) : Int))
    (c12 : ¬ (((G.1 (F a 8) 6).toInt) ≤ l3_4.toInt))
    (t24 : ((0 ≤ l3_4.toInt ∧ l3_4.toInt < ((G.1 (F a 8) 6).toInt) ∧ l3_4.toInt < 1080) ∧ x24.toInt = (aI (G.2.1 (F (F a 8) 0)) (l3_4.toInt))) ∨ (¬ (0 ≤ l3_4.toInt ∧ l3_4.toInt < ((G.1 (F a 8) 6).toInt) ∧ l3_4.toInt < 1080) ∧ x24.toInt = -1))
    (ht27 : 0 ≤ x24.toInt ∧ x24.toInt < 12)
    (t45 : ((0 ≤ l3_4.toInt ∧ l3_4.toInt < ((G.1 (F a 8) 6).toInt) ∧ l3_4.toInt < 1080) ∧ x45.toInt = (aI (G.2.1 (F (F a 8) 1)) (l3_4.toInt))) ∨ (¬ (0 ≤ l3_4.toInt ∧ l3_4.toInt < ((G.1 (F a 8) 6).toInt) ∧ l3_4.toInt < 1080) ∧ x45.toInt = -1))
    (t56 : ((0 ≤ l3_4.toInt ∧ l3_4.toInt < ((G.1 (F a 8) 6).toInt) ∧ l3_4.toInt < 1080) ∧ x56.toInt = (aI (G.2.1 (F (F a 8) 3)) (l3_4.toInt))) ∨ (¬ (0 ≤ l3_4.toInt ∧ l3_4.toInt < ((G.1 (F a 8) 6).toInt) ∧ l3_4.toInt < 1080) ∧ x56.toInt = -2000))
    (c59 : (stt (vw (G.2.1 (F p0 0))) ((G.1 q27 0).toInt) ((G.1 q27 2).toInt) ((G.1 q27 3).toInt) ((G.1 q27 4).toInt) (x45.toInt)) = x56.toInt) :
    l2_4.toInt = smS (fun j => chQ G (G.2.2.1 (F (F a 2) 0)) (vw (G.2.1 (F p0 0))) (qtI G F (F a 8) j)) 0 (l3_4.toInt + 1) := by
  have e24 : x24.toInt = aI (G.2.1 (F (F a 8) 0)) l3_4.toInt := by omega
  rw [smS_s (by omega)]
  first
    | (rw [chQ_n (x := qtI G F (F a 8) l3_4.toInt) (z := x24.toInt) e24.symm hn27]; omega)
    | (have e45 : x45.toInt = aI (G.2.1 (F (F a 8) 1)) l3_4.toInt := by omega
       have e56 : x56.toInt = aI (G.2.1 (F (F a 8) 3)) l3_4.toInt := by omega
       have k := chQ_y (G := G) (v := vw (G.2.1 (F p0 0))) (x := qtI G F (F a 8) l3_4.toInt) e24.symm ht27 hs27 e45.symm e56.symm t48
       omega)
theorem v_X10_changedSince_68_6 {K : Nat → Nat} {F : Nat → Nat → Nat} (a : Nat) (p0 : Nat) (q27 : Nat) (G : XG) (l2_4 : Int32) (l3_4 : Int32) (x24 : Int32) (x48 : Int32) (x45 : Int32) (N4 : Nat) (x56 : Int32)
    (ha : K a = 12)
    (hp0 : K p0 = 8)
    (pc : l2_4.toInt = smS (fun j => chQ G (G.2.2.1 (F (F a 2) 0)) (vw (G.2.1 (F p0 0))) (qtI G F (F a 8) j)) 0 l3_4.toInt)
    (hs27 : G.2.2.1 (F (F a 2) 0) (x24.toInt).toNat = some q27)
    (t48 : x48.toInt = (stt (vw (G.2.1 (F p0 0))) ((G.1 q27 0).toInt) ((G.1 q27 2).toInt) ((G.1 q27 3).toInt) ((G.1 q27 4).toInt) (x45.toInt)))
    (w8 : 0 ≤ ((G.1 (F a 8) 6).toInt) ∧ ((G.1 (F a 8) 6).toInt) ≤ 1080)
    (I4_0 : 0 ≤ l3_4.toInt ∧ l3_4.toInt ≤ ((G.1 (F a 8) 6).toInt))
    (I4_1 : 0 ≤ l2_4.toInt ∧ l2_4.toInt ≤ l3_4.toInt)
    (hm4 : 5000 - l3_4.toInt < (((N4) + 1 : Nat) : Int))
    (c12 : ¬ (((G.1 (F a 8) 6).toInt) ≤ l3_4.toInt))
    (t24 : ((0 ≤ l3_4.toInt ∧ l3_4.toInt < ((G.1 (F a 8) 6).toInt) ∧ l3_4.toInt < 1080) ∧ x24.toInt = (aI (G.2.1 (F (F a 8) 0)) (l3_4.toInt))) ∨ (¬ (0 ≤ l3_4.toInt ∧ l3_4.toInt < ((G.1 (F a 8) 6).toInt) ∧ l3_4.toInt < 1080) ∧ x24.toInt = -1))
    (ht27 : 0 ≤ x24.toInt ∧ x24.toInt < 12)
    (t45 : ((0 ≤ l3_4.toInt ∧ l3_4.toInt < ((G.1 (F a 8) 6).toInt) ∧ l3_4.toInt < 1080) ∧ x45.toInt = (aI (G.2.1 (F (F a 8) 1)) (l3_4.toInt))) ∨ (¬ (0 ≤ l3_4.toInt ∧ l3_4.toInt < ((G.1 (F a 8) 6).toInt) ∧ l3_4.toInt < 1080) ∧ x45.toInt = -1))
    (t56 : ((0 ≤ l3_4.toInt ∧ l3_4.toInt < ((G.1 (F a 8) 6).toInt) ∧ l3_4.toInt < 1080) ∧ x56.toInt = (aI (G.2.1 (F (F a 8) 3)) (l3_4.toInt))) ∨ (¬ (0 ≤ l3_4.toInt ∧ l3_4.toInt < ((G.1 (F a 8) 6).toInt) ∧ l3_4.toInt < 1080) ∧ x56.toInt = -2000))
    (c59 : ¬ ((stt (vw (G.2.1 (F p0 0))) ((G.1 q27 0).toInt) ((G.1 q27 2).toInt) ((G.1 q27 3).toInt) ((G.1 q27 4).toInt) (x45.toInt)) = x56.toInt)) :
    (l2_4.toInt + 1) = smS (fun j => chQ G (G.2.2.1 (F (F a 2) 0)) (vw (G.2.1 (F p0 0))) (qtI G F (F a 8) j)) 0 (l3_4.toInt + 1) := by
  have e24 : x24.toInt = aI (G.2.1 (F (F a 8) 0)) l3_4.toInt := by omega
  rw [smS_s (by omega)]
  first
    | (rw [chQ_n (x := qtI G F (F a 8) l3_4.toInt) (z := x24.toInt) e24.symm hn27]; omega)
    | (have e45 : x45.toInt = aI (G.2.1 (F (F a 8) 1)) l3_4.toInt := by omega
       have e56 : x56.toInt = aI (G.2.1 (F (F a 8) 3)) l3_4.toInt := by omega
       have k := chQ_y (G := G) (v := vw (G.2.1 (F p0 0))) (x := qtI G F (F a 8) l3_4.toInt) e24.symm ht27 hs27 e45.symm e56.symm t48
       omega)
theorem v_X10_changedSince_3_7 {F : Nat → Nat → Nat} (a : Nat) (p0 : Nat) (G : XG) :
    (0 : Int) = smS (fun j => chQ G (G.2.2.1 (F (F a 2) 0)) (vw (G.2.1 (F p0 0))) (qtI G F (F a 8) j)) 0 (0 : Int) := by
  exact (smS_0 _ _).symm
theorem v_X10_settledSince_11_1 {F : Nat → Nat → Nat} (a : Nat) (G : XG)
    (rob : RO (vw (G.2.1 (F (F a 4) 0))) (aI (G.2.1 (F (F a 4) 1)))) :
    RO (vw (G.2.1 (F (F a 4) 0))) (aI (G.2.1 (F (F a 4) 1))) := by exact rob
theorem v_X10_settledSince_11_2 {F : Nat → Nat → Nat} (p0 : Nat) (G : XG)
    (rox : RO (vw (G.2.1 (F p0 0))) (aI (G.2.1 (F p0 1)))) :
    RO (vw (G.2.1 (F p0 0))) (aI (G.2.1 (F p0 1))) := by exact rox
theorem v_X10_settledSince_11_3 {K : Nat → Nat} {F : Nat → Nat → Nat} (G : XG) (a : Nat)
    (bko : BKr K G (G.2.2.1 (F (F a 2) 1))) :
    ∀ (i q : Nat), i < 12 → G.2.2.1 (F (F a 2) 1) i = some q → RW (G.1 q) := by
  exact bko.rw
theorem v_X10_settledSince_11_4 {K : Nat → Nat} {F : Nat → Nat → Nat} (a : Nat) (p0 : Nat) (G : XG)
    (ha : K a = 12)
    (hp0 : K p0 = 8)
    (hk9999 : K (F a 11) = 3)
    (hj9999 : F (F a 11) 99 = 0)
    (hk9999a : K (F a 9) = 6)
    (hj9999a : F (F a 9) 99 = 1)
    (hk9999b : K (F (F a 11) 0) = 21)
    (hj9999b : F (F (F a 11) 0) 99 = 100)
    (hk9999c : K (F (F a 11) 1) = 21)
    (hj9999c : F (F (F a 11) 1) 99 = 101)
    (hk9999d : K (F (F a 11) 2) = 24)
    (hj9999d : F (F (F a 11) 2) 99 = 4)
    (hk9999e : K (F (F a 9) 0) = 22)
    (hj9999f : F (F (F a 9) 0) 99 = 10 * 1 + 0)
    (hk9999f : K (F (F a 9) 1) = 22)
    (hj9999h : F (F (F a 9) 1) 99 = 10 * 1 + 1)
    (hk9999g : K (F (F a 9) 2) = 22)
    (hj9999j : F (F (F a 9) 2) 99 = 10 * 1 + 2)
    (hk9999h : K (F (F a 9) 3) = 22)
    (hj9999l : F (F (F a 9) 3) 99 = 10 * 1 + 3)
    (hk9999i : K (F (F a 9) 4) = 23)
    (hj9999n : F (F (F a 9) 4) 99 = 10 * 1 + 4)
    (hk9999j : K (F (F a 9) 5) = 23)
    (hj9999p : F (F (F a 9) 5) 99 = 10 * 1 + 5)
    (hk9999k : K (F a 2) = 2)
    (hj9999q : F (F a 2) 99 = 0)
    (hk9999l : K (F (F a 2) 0) = 15)
    (hj9999r : F (F (F a 2) 0) 99 = 0)
    (hk9999m : K (F (F a 2) 1) = 15)
    (hj9999s : F (F (F a 2) 1) 99 = 1)
    (hk9999n : K (F p0 0) = 20)
    (hj9999t : F (F p0 0) 99 = F p0 99)
    (hk9999o : K (F p0 1) = 21)
    (hj9999u : F (F p0 1) 99 = F p0 99)
    (hk9999p : K (F a 4) = 8)
    (hj9999v : F (F a 4) 99 = 1)
    (hk9999q : K (F (F a 4) 0) = 20)
    (hj9999y : F (F (F a 4) 0) 99 = 1)
    (hk9999r : K (F (F a 4) 1) = 21)
    (hj9999z26 : F (F (F a 4) 1) 99 = 1)
    (hk9999s : K (F a 3) = 8)
    (hj9999z27 : F (F a 3) 99 = 0)
    (hk9999t : K (F (F a 3) 0) = 20)
    (hj9999z29 : F (F (F a 3) 0) 99 = 0)
    (hk9999u : K (F (F a 3) 1) = 21)
    (hj9999z31 : F (F (F a 3) 1) 99 = 0)
    (rox : RO (vw (G.2.1 (F p0 0))) (aI (G.2.1 (F p0 1))))
    (j0 : F p0 99 < 12)
    (rob : RO (vw (G.2.1 (F (F a 4) 0))) (aI (G.2.1 (F (F a 4) 1))))
    (ron : RO (vw (G.2.1 (F (F a 3) 0))) (aI (G.2.1 (F (F a 3) 1))))
    (bko : BKr K G (G.2.2.1 (F (F a 2) 1)))
    (bkn : BKr K G (G.2.2.1 (F (F a 2) 0)))
    (sb : 0 ≤ ((G.1 (F a 2) 2).toInt) ∧ ((G.1 (F a 2) 2).toInt) ≤ 12) :
    F (F a 4) 99 < 12 := by
  first | assumption | omega
theorem v_X10_settledSince_11_5 {F : Nat → Nat → Nat} (p0 : Nat)
    (j0 : F p0 99 < 12) :
    F p0 99 < 12 := by exact j0
theorem v_X10_settledSince_89_6 {K : Nat → Nat} {F : Nat → Nat → Nat} (a : Nat) (p0 : Nat) (G : XG) (G11 : XG) (l2_18 : Int32) (l3_18 : Int32) (N18 : Nat)
    (ha : K a = 12)
    (hp0 : K p0 = 8)
    (j0 : F p0 99 < 12)
    (oq11 : qL G11 F (F a 9) = gaL G (G.2.2.1 (F (F a 2) 1)) (vw (G.2.1 (F (F a 4) 0))) (vw (G.2.1 (F p0 0))) (1 : Int) (((G.1 (F a 2) 2).toInt)).toNat)
    (pc : l2_18.toInt = smS (fun j => seQ G (G.2.2.1 (F (F a 2) 0)) (vw (G.2.1 (F (F a 3) 0))) (qtI G11 F (F a 9) j)) 0 l3_18.toInt)
    (sb : 0 ≤ ((G.1 (F a 2) 2).toInt) ∧ ((G.1 (F a 2) 2).toInt) ≤ 12)
    (t11 : 0 ≤ ((G11.1 (F a 9) 6).toInt) ∧ ((G11.1 (F a 9) 6).toInt) ≤ 1080)
    (I18_0 : 0 ≤ l3_18.toInt ∧ l3_18.toInt ≤ ((G11.1 (F a 9) 6).toInt))
    (I18_1 : 0 ≤ l2_18.toInt ∧ l2_18.toInt ≤ l3_18.toInt)
    (hm18 : 5000 - l3_18.toInt < (((N18) + 1 : Nat) : Int))
    (c26 : ((G11.1 (F a 9) 6).toInt) ≤ l3_18.toInt) :
    l2_18.toInt = smQ (seQ G (G.2.2.1 (F (F a 2) 0)) (vw (G.2.1 (F (F a 3) 0)))) (gaL G (G.2.2.1 (F (F a 2) 1)) (vw (G.2.1 (F (F a 4) 0))) (vw (G.2.1 (F p0 0))) 1 (((G.1 (F a 2) 2).toInt)).toNat) := by
  rw [pc, show l3_18.toInt = (G11.1 (F a 9) 6).toInt from by omega, smS_qL, oq11]
theorem v_X10_settledSince_85_7 {K : Nat → Nat} {F : Nat → Nat → Nat} (a : Nat) (p0 : Nat) (G : XG) (G11 : XG) (l2_18 : Int32) (l3_18 : Int32) (x38 : Int32) (N18 : Nat)
    (ha : K a = 12)
    (hp0 : K p0 = 8)
    (j0 : F p0 99 < 12)
    (pc : l2_18.toInt = smS (fun j => seQ G (G.2.2.1 (F (F a 2) 0)) (vw (G.2.1 (F (F a 3) 0))) (qtI G11 F (F a 9) j)) 0 l3_18.toInt)
    (hn41 : (x38.toInt < 0 ∨ 12 ≤ x38.toInt) ∨ G11.2.2.1 (F (F a 2) 0) (x38.toInt).toNat = none)
    (sb : 0 ≤ ((G.1 (F a 2) 2).toInt) ∧ ((G.1 (F a 2) 2).toInt) ≤ 12)
    (t11 : 0 ≤ ((G11.1 (F a 9) 6).toInt) ∧ ((G11.1 (F a 9) 6).toInt) ≤ 1080)
    (I18_0 : 0 ≤ l3_18.toInt ∧ l3_18.toInt ≤ ((G11.1 (F a 9) 6).toInt))
    (I18_1 : 0 ≤ l2_18.toInt ∧ l2_18.toInt ≤ l3_18.toInt)
    (hm18 : 5000 - l3_18.toInt < (((N18) + 1 : Nat) : Int))
    (c26 : ¬ (((G11.1 (F a 9) 6).toInt) ≤ l3_18.toInt))
    (t38 : ((0 ≤ l3_18.toInt ∧ l3_18.toInt < ((G11.1 (F a 9) 6).toInt) ∧ l3_18.toInt < 1080) ∧ x38.toInt = (aI (G11.2.1 (F (F a 9) 0)) (l3_18.toInt))) ∨ (¬ (0 ≤ l3_18.toInt ∧ l3_18.toInt < ((G11.1 (F a 9) 6).toInt) ∧ l3_18.toInt < 1080) ∧ x38.toInt = -1))
    (r_G11_F_F_a_2_0 : G11.2.2.1 (F (F a 2) 0) = G.2.2.1 (F (F a 2) 0)) :
    l2_18.toInt = smS (fun j => seQ G (G.2.2.1 (F (F a 2) 0)) (vw (G.2.1 (F (F a 3) 0))) (qtI G11 F (F a 9) j)) 0 (l3_18.toInt + 1) := by
  have e38 : x38.toInt = aI (G11.2.1 (F (F a 9) 0)) l3_18.toInt := by omega
  rw [smS_s (by omega)]
  first
    | (rw [r_G11_F_F_a_2_0] at hn41
       rw [seQ_n (x := qtI G11 F (F a 9) l3_18.toInt) (z := x38.toInt) e38.symm hn41]; omega)
    | (rw [r_G11_F_F_a_2_0] at hs41
       have e62 : x62.toInt = aI (G11.2.1 (F (F a 9) 1)) l3_18.toInt := by omega
       have eB : x73.toInt = aI (G11.2.1 (F (F a 9) 2)) l3_18.toInt := by omega
       have k := seQ_y (G := G) (v := vw (G.2.1 (F (F a 3) 0))) (x := qtI G11 F (F a 9) l3_18.toInt) e38.symm ht41 hs41 e62.symm eB.symm t65
       omega)
theorem v_X10_settledSince_65_8 {F : Nat → Nat → Nat} (a : Nat) (p0 : Nat) (G : XG) (G11 : XG)
    (rox : RO (vw (G.2.1 (F p0 0))) (aI (G.2.1 (F p0 1))))
    (rob : RO (vw (G.2.1 (F (F a 4) 0))) (aI (G.2.1 (F (F a 4) 1))))
    (ron : RO (vw (G.2.1 (F (F a 3) 0))) (aI (G.2.1 (F (F a 3) 1))))
    (c_G11_F_F_a_3_0 : G11.2.1 (F (F a 3) 0) = G.2.1 (F (F a 3) 0))
    (c_G11_F_F_a_3_1 : G11.2.1 (F (F a 3) 1) = G.2.1 (F (F a 3) 1)) :
    RO (vw (G11.2.1 (F (F a 3) 0))) (aI (G11.2.1 (F (F a 3) 1))) := by simp only [c_G11_F_F_a_3_0, c_G11_F_F_a_3_1]; assumption
theorem v_X10_settledSince_65_9 {K : Nat → Nat} {F : Nat → Nat → Nat} (G : XG) (a : Nat) (G11 : XG) (x38 : Int32) (q41 : Nat)
    (bkn : BKr K G (G.2.2.1 (F (F a 2) 0)))
    (hs41 : G11.2.2.1 (F (F a 2) 0) (x38.toInt).toNat = some q41)
    (ht41 : 0 ≤ x38.toInt ∧ x38.toInt < 12)
    (r_G11_F_F_a_2_0 : G11.2.2.1 (F (F a 2) 0) = G.2.2.1 (F (F a 2) 0))
    (D_G11_q41 : G11.1 q41 = G.1 q41) :
    RW (G11.1 q41) := by
  rw [D_G11_q41]
  exact (bkn x38.toInt.toNat q41 (by omega) (by rw [← r_G11_F_F_a_2_0]; exact hs41)).2
theorem v_X10_settledSince_85_10 {K : Nat → Nat} {F : Nat → Nat → Nat} (a : Nat) (p0 : Nat) (q41 : Nat) (G : XG) (G11 : XG) (l2_18 : Int32) (l3_18 : Int32) (x38 : Int32) (x65 : Int32) (x62 : Int32) (N18 : Nat) (x73 : Int32)
    (ha : K a = 12)
    (hp0 : K p0 = 8)
    (j0 : F p0 99 < 12)
    (pc : l2_18.toInt = smS (fun j => seQ G (G.2.2.1 (F (F a 2) 0)) (vw (G.2.1 (F (F a 3) 0))) (qtI G11 F (F a 9) j)) 0 l3_18.toInt)
    (hs41 : G11.2.2.1 (F (F a 2) 0) (x38.toInt).toNat = some q41)
    (t65 : x65.toInt = (stt (vw (G.2.1 (F (F a 3) 0))) ((G.1 q41 0).toInt) ((G.1 q41 2).toInt) ((G.1 q41 3).toInt) ((G.1 q41 4).toInt) (x62.toInt)))
    (sb : 0 ≤ ((G.1 (F a 2) 2).toInt) ∧ ((G.1 (F a 2) 2).toInt) ≤ 12)
    (t11 : 0 ≤ ((G11.1 (F a 9) 6).toInt) ∧ ((G11.1 (F a 9) 6).toInt) ≤ 1080)
    (I18_0 : 0 ≤ l3_18.toInt ∧ l3_18.toInt ≤ ((G11.1 (F a 9) 6).toInt))
    (I18_1 : 0 ≤ l2_18.toInt ∧ l2_18.toInt ≤ l3_18.toInt)
    (hm18 : 5000 - l3_18.toInt < (((N18) + 1 : Nat) : Int))
    (c26 : ¬ (((G11.1 (F a 9) 6).toInt) ≤ l3_18.toInt))
    (t38 : ((0 ≤ l3_18.toInt ∧ l3_18.toInt < ((G11.1 (F a 9) 6).toInt) ∧ l3_18.toInt < 1080) ∧ x38.toInt = (aI (G11.2.1 (F (F a 9) 0)) (l3_18.toInt))) ∨ (¬ (0 ≤ l3_18.toInt ∧ l3_18.toInt < ((G11.1 (F a 9) 6).toInt) ∧ l3_18.toInt < 1080) ∧ x38.toInt = -1))
    (ht41 : 0 ≤ x38.toInt ∧ x38.toInt < 12)
    (t62 : ((0 ≤ l3_18.toInt ∧ l3_18.toInt < ((G11.1 (F a 9) 6).toInt) ∧ l3_18.toInt < 1080) ∧ x62.toInt = (aI (G11.2.1 (F (F a 9) 1)) (l3_18.toInt))) ∨ (¬ (0 ≤ l3_18.toInt ∧ l3_18.toInt < ((G11.1 (F a 9) 6).toInt) ∧ l3_18.toInt < 1080) ∧ x62.toInt = -1))
    (t73 : ((0 ≤ l3_18.toInt ∧ l3_18.toInt < ((G11.1 (F a 9) 6).toInt) ∧ l3_18.toInt < 1080) ∧ x73.toInt = (aI (G11.2.1 (F (F a 9) 2)) (l3_18.toInt))) ∨ (¬ (0 ≤ l3_18.toInt ∧ l3_18.toInt < ((G11.1 (F a 9) 6).toInt) ∧ l3_18.toInt < 1080) ∧ x73.toInt = -2000))
    (c76 : (stt (vw (G.2.1 (F (F a 3) 0))) ((G.1 q41 0).toInt) ((G.1 q41 2).toInt) ((G.1 q41 3).toInt) ((G.1 q41 4).toInt) (x62.toInt)) ≠ x73.toInt)
    (r_G11_F_F_a_2_0 : G11.2.2.1 (F (F a 2) 0) = G.2.2.1 (F (F a 2) 0)) :
    l2_18.toInt = smS (fun j => seQ G (G.2.2.1 (F (F a 2) 0)) (vw (G.2.1 (F (F a 3) 0))) (qtI G11 F (F a 9) j)) 0 (l3_18.toInt + 1) := by
  have e38 : x38.toInt = aI (G11.2.1 (F (F a 9) 0)) l3_18.toInt := by omega
  rw [smS_s (by omega)]
  first
    | (rw [r_G11_F_F_a_2_0] at hn41
       rw [seQ_n (x := qtI G11 F (F a 9) l3_18.toInt) (z := x38.toInt) e38.symm hn41]; omega)
    | (rw [r_G11_F_F_a_2_0] at hs41
       have e62 : x62.toInt = aI (G11.2.1 (F (F a 9) 1)) l3_18.toInt := by omega
       have eB : x73.toInt = aI (G11.2.1 (F (F a 9) 2)) l3_18.toInt := by omega
       have k := seQ_y (G := G) (v := vw (G.2.1 (F (F a 3) 0))) (x := qtI G11 F (F a 9) l3_18.toInt) e38.symm ht41 hs41 e62.symm eB.symm t65
       omega)
theorem v_X10_settledSince_85_11 {K : Nat → Nat} {F : Nat → Nat → Nat} (a : Nat) (p0 : Nat) (q41 : Nat) (G : XG) (G11 : XG) (l2_18 : Int32) (l3_18 : Int32) (x38 : Int32) (x65 : Int32) (x62 : Int32) (N18 : Nat) (x73 : Int32)
    (ha : K a = 12)
    (hp0 : K p0 = 8)
    (j0 : F p0 99 < 12)
    (pc : l2_18.toInt = smS (fun j => seQ G (G.2.2.1 (F (F a 2) 0)) (vw (G.2.1 (F (F a 3) 0))) (qtI G11 F (F a 9) j)) 0 l3_18.toInt)
    (hs41 : G11.2.2.1 (F (F a 2) 0) (x38.toInt).toNat = some q41)
    (t65 : x65.toInt = (stt (vw (G.2.1 (F (F a 3) 0))) ((G.1 q41 0).toInt) ((G.1 q41 2).toInt) ((G.1 q41 3).toInt) ((G.1 q41 4).toInt) (x62.toInt)))
    (sb : 0 ≤ ((G.1 (F a 2) 2).toInt) ∧ ((G.1 (F a 2) 2).toInt) ≤ 12)
    (t11 : 0 ≤ ((G11.1 (F a 9) 6).toInt) ∧ ((G11.1 (F a 9) 6).toInt) ≤ 1080)
    (I18_0 : 0 ≤ l3_18.toInt ∧ l3_18.toInt ≤ ((G11.1 (F a 9) 6).toInt))
    (I18_1 : 0 ≤ l2_18.toInt ∧ l2_18.toInt ≤ l3_18.toInt)
    (hm18 : 5000 - l3_18.toInt < (((N18) + 1 : Nat) : Int))
    (c26 : ¬ (((G11.1 (F a 9) 6).toInt) ≤ l3_18.toInt))
    (t38 : ((0 ≤ l3_18.toInt ∧ l3_18.toInt < ((G11.1 (F a 9) 6).toInt) ∧ l3_18.toInt < 1080) ∧ x38.toInt = (aI (G11.2.1 (F (F a 9) 0)) (l3_18.toInt))) ∨ (¬ (0 ≤ l3_18.toInt ∧ l3_18.toInt < ((G11.1 (F a 9) 6).toInt) ∧ l3_18.toInt < 1080) ∧ x38.toInt = -1))
    (ht41 : 0 ≤ x38.toInt ∧ x38.toInt < 12)
    (t62 : ((0 ≤ l3_18.toInt ∧ l3_18.toInt < ((G11.1 (F a 9) 6).toInt) ∧ l3_18.toInt < 1080) ∧ x62.toInt = (aI (G11.2.1 (F (F a 9) 1)) (l3_18.toInt))) ∨ (¬ (0 ≤ l3_18.toInt ∧ l3_18.toInt < ((G11.1 (F a 9) 6).toInt) ∧ l3_18.toInt < 1080) ∧ x62.toInt = -1))
    (t73 : ((0 ≤ l3_18.toInt ∧ l3_18.toInt < ((G11.1 (F a 9) 6).toInt) ∧ l3_18.toInt < 1080) ∧ x73.toInt = (aI (G11.2.1 (F (F a 9) 2)) (l3_18.toInt))) ∨ (¬ (0 ≤ l3_18.toInt ∧ l3_18.toInt < ((G11.1 (F a 9) 6).toInt) ∧ l3_18.toInt < 1080) ∧ x73.toInt = -2000))
    (c76 : ¬ ((stt (vw (G.2.1 (F (F a 3) 0))) ((G.1 q41 0).toInt) ((G.1 q41 2).toInt) ((G.1 q41 3).toInt) ((G.1 q41 4).toInt) (x62.toInt)) ≠ x73.toInt))
    (r_G11_F_F_a_2_0 : G11.2.2.1 (F (F a 2) 0) = G.2.2.1 (F (F a 2) 0)) :
    (l2_18.toInt + 1) = smS (fun j => seQ G (G.2.2.1 (F (F a 2) 0)) (vw (G.2.1 (F (F a 3) 0))) (qtI G11 F (F a 9) j)) 0 (l3_18.toInt + 1) := by
  have e38 : x38.toInt = aI (G11.2.1 (F (F a 9) 0)) l3_18.toInt := by omega
  rw [smS_s (by omega)]
  first
    | (rw [r_G11_F_F_a_2_0] at hn41
       rw [seQ_n (x := qtI G11 F (F a 9) l3_18.toInt) (z := x38.toInt) e38.symm hn41]; omega)
    | (rw [r_G11_F_F_a_2_0] at hs41
       have e62 : x62.toInt = aI (G11.2.1 (F (F a 9) 1)) l3_18.toInt := by omega
       have eB : x73.toInt = aI (G11.2.1 (F (F a 9) 2)) l3_18.toInt := by omega
       have k := seQ_y (G := G) (v := vw (G.2.1 (F (F a 3) 0))) (x := qtI G11 F (F a 9) l3_18.toInt) e38.symm ht41 hs41 e62.symm eB.symm t65
       omega)
theorem v_X10_settledSince_17_12 {F : Nat → Nat → Nat} (a : Nat) (G : XG) (G11 : XG) :
    (0 : Int) = smS (fun j => seQ G (G.2.2.1 (F (F a 2) 0)) (vw (G.2.1 (F (F a 3) 0))) (qtI G11 F (F a 9) j)) 0 (0 : Int) := by
  exact (smS_0 _ _).symm
theorem v_X10_fresh_11_1 {F : Nat → Nat → Nat} (a : Nat) (G : XG) (p0 : Int32) (p1 : Int32)
    (hn2 : p0.toInt < 0 ∨ ((G.1 a 17).toInt) ≤ p0.toInt ∨ 8 ≤ p0.toInt) :
    (((p0.toInt < 0 ∨ ((G.1 a 17).toInt) ≤ p0.toInt ∨ 8 ≤ p0.toInt) ∨ p1.toInt < 0 ∨ 1 < p1.toInt) ∧ (-1 : Int) = -1) ∨ (∃ q : Nat, (0 ≤ p0.toInt ∧ p0.toInt < ((G.1 a 17).toInt) ∧ p0.toInt < 8) ∧ G.2.2.1 (F a 7) (p0.toInt).toNat = some q ∧ ((p1.toInt = 0 ∧ (-1 : Int) = smQ (chQ G (G.2.2.1 (F (F a 2) 0)) (vw (G.2.1 (F q 0)))) (qL G F (F a 8))) ∨ (p1.toInt = 1 ∧ (-1 : Int) = smQ (seQ G (G.2.2.1 (F (F a 2) 0)) (vw (G.2.1 (F (F a 3) 0)))) (gaL G (G.2.2.1 (F (F a 2) 1)) (vw (G.2.1 (F (F a 4) 0))) (vw (G.2.1 (F q 0))) 1 (((G.1 (F a 2) 2).toInt)).toNat)))) := by
  exact Or.inl ⟨Or.inl hn2, rfl⟩
theorem v_X10_fresh_53_2 {K : Nat → Nat} {F : Nat → Nat → Nat} (a : Nat) (q2 : Nat) (p0 : Int32) (G : XG) (p1 : Int32)
    (ha : K a = 12)
    (f46 : F q2 99 = 4 + (p0.toInt).toNat)
    (hs2 : F q2 99 = 4 + (p0.toInt).toNat ∧ G.2.2.1 (F a 7) (p0.toInt).toNat = some q2)
    (sb : 0 ≤ ((G.1 (F a 2) 2).toInt) ∧ ((G.1 (F a 2) 2).toInt) ≤ 12)
    (w8 : 0 ≤ ((G.1 (F a 8) 6).toInt) ∧ ((G.1 (F a 8) 6).toInt) ≤ 1080)
    (ht2 : 0 ≤ p0.toInt ∧ p0.toInt < ((G.1 a 17).toInt) ∧ p0.toInt < 8)
    (c13 : ¬ p1.toInt = 0 ∧ ¬ p1.toInt = 1) :
    (((p0.toInt < 0 ∨ ((G.1 a 17).toInt) ≤ p0.toInt ∨ 8 ≤ p0.toInt) ∨ p1.toInt < 0 ∨ 1 < p1.toInt) ∧ (-1 : Int) = -1) ∨ (∃ q : Nat, (0 ≤ p0.toInt ∧ p0.toInt < ((G.1 a 17).toInt) ∧ p0.toInt < 8) ∧ G.2.2.1 (F a 7) (p0.toInt).toNat = some q ∧ ((p1.toInt = 0 ∧ (-1 : Int) = smQ (chQ G (G.2.2.1 (F (F a 2) 0)) (vw (G.2.1 (F q 0)))) (qL G F (F a 8))) ∨ (p1.toInt = 1 ∧ (-1 : Int) = smQ (seQ G (G.2.2.1 (F (F a 2) 0)) (vw (G.2.1 (F (F a 3) 0)))) (gaL G (G.2.2.1 (F (F a 2) 1)) (vw (G.2.1 (F (F a 4) 0))) (vw (G.2.1 (F q 0))) 1 (((G.1 (F a 2) 2).toInt)).toNat)))) := by
  exact Or.inl ⟨Or.inr (by omega), rfl⟩
theorem v_X10_fresh_42_3 {F : Nat → Nat → Nat} (G : XG) (a : Nat) (q2 : Nat) (p0 : Int32)
    (rok : ∀ (i q : Nat), i < 8 → G.2.2.1 (F a 7) i = some q → RO (vw (G.2.1 (F q 0))) (aI (G.2.1 (F q 1))))
    (hs2 : F q2 99 = 4 + (p0.toInt).toNat ∧ G.2.2.1 (F a 7) (p0.toInt).toNat = some q2)
    (ht2 : 0 ≤ p0.toInt ∧ p0.toInt < ((G.1 a 17).toInt) ∧ p0.toInt < 8) :
    RO (vw (G.2.1 (F q2 0))) (aI (G.2.1 (F q2 1))) := by
  exact rok p0.toInt.toNat q2 (by omega) hs2.2
theorem v_X10_fresh_42_4 {K : Nat → Nat} {F : Nat → Nat → Nat} (a : Nat) (G : XG)
    (bkn : BKr K G (G.2.2.1 (F (F a 2) 0))) :
    BKr K G (G.2.2.1 (F (F a 2) 0)) := by exact bkn
theorem v_X10_fresh_45_5 {F : Nat → Nat → Nat} (a : Nat) (q2 : Nat) (p0 : Int32) (G : XG) (x42 : Int32) (p1 : Int32)
    (hs2 : F q2 99 = 4 + (p0.toInt).toNat ∧ G.2.2.1 (F a 7) (p0.toInt).toNat = some q2)
    (oq42 : x42.toInt = smQ (chQ G (G.2.2.1 (F (F a 2) 0)) (vw (G.2.1 (F q2 0)))) (qL G F (F a 8)))
    (ht2 : 0 ≤ p0.toInt ∧ p0.toInt < ((G.1 a 17).toInt) ∧ p0.toInt < 8)
    (c13 : p1.toInt = 0) :
    (((p0.toInt < 0 ∨ ((G.1 a 17).toInt) ≤ p0.toInt ∨ 8 ≤ p0.toInt) ∨ p1.toInt < 0 ∨ 1 < p1.toInt) ∧ x42.toInt = -1) ∨ (∃ q : Nat, (0 ≤ p0.toInt ∧ p0.toInt < ((G.1 a 17).toInt) ∧ p0.toInt < 8) ∧ G.2.2.1 (F a 7) (p0.toInt).toNat = some q ∧ ((p1.toInt = 0 ∧ x42.toInt = smQ (chQ G (G.2.2.1 (F (F a 2) 0)) (vw (G.2.1 (F q 0)))) (qL G F (F a 8))) ∨ (p1.toInt = 1 ∧ x42.toInt = smQ (seQ G (G.2.2.1 (F (F a 2) 0)) (vw (G.2.1 (F (F a 3) 0)))) (gaL G (G.2.2.1 (F (F a 2) 1)) (vw (G.2.1 (F (F a 4) 0))) (vw (G.2.1 (F q 0))) 1 (((G.1 (F a 2) 2).toInt)).toNat)))) := by
  exact Or.inr ⟨q2, ht2, hs2.2, Or.inl ⟨c13, oq42⟩⟩
theorem v_X10_fresh_48_6 {F : Nat → Nat → Nat} (G : XG) (a : Nat) (q2 : Nat) (p0 : Int32)
    (rok : ∀ (i q : Nat), i < 8 → G.2.2.1 (F a 7) i = some q → RO (vw (G.2.1 (F q 0))) (aI (G.2.1 (F q 1))))
    (hs2 : F q2 99 = 4 + (p0.toInt).toNat ∧ G.2.2.1 (F a 7) (p0.toInt).toNat = some q2)
    (ht2 : 0 ≤ p0.toInt ∧ p0.toInt < ((G.1 a 17).toInt) ∧ p0.toInt < 8) :
    RO (vw (G.2.1 (F q2 0))) (aI (G.2.1 (F q2 1))) := by
  exact rok p0.toInt.toNat q2 (by omega) hs2.2
theorem v_X10_fresh_48_7 {F : Nat → Nat → Nat} (q2 : Nat) (p0 : Int32) (G : XG) (a : Nat)
    (hs2 : F q2 99 = 4 + (p0.toInt).toNat ∧ G.2.2.1 (F a 7) (p0.toInt).toNat = some q2)
    (ht2 : 0 ≤ p0.toInt ∧ p0.toInt < ((G.1 a 17).toInt) ∧ p0.toInt < 8) :
    F q2 99 < 12 := by
  rw [hs2.1]; omega
theorem v_X10_fresh_48_8 {F : Nat → Nat → Nat} (a : Nat) (G : XG)
    (rob : RO (vw (G.2.1 (F (F a 4) 0))) (aI (G.2.1 (F (F a 4) 1)))) :
    RO (vw (G.2.1 (F (F a 4) 0))) (aI (G.2.1 (F (F a 4) 1))) := by exact rob
theorem v_X10_fresh_48_9 {F : Nat → Nat → Nat} (a : Nat) (G : XG)
    (ron : RO (vw (G.2.1 (F (F a 3) 0))) (aI (G.2.1 (F (F a 3) 1)))) :
    RO (vw (G.2.1 (F (F a 3) 0))) (aI (G.2.1 (F (F a 3) 1))) := by exact ron
theorem v_X10_fresh_48_10 {K : Nat → Nat} {F : Nat → Nat → Nat} (a : Nat) (G : XG)
    (bko : BKr K G (G.2.2.1 (F (F a 2) 1))) :
    BKr K G (G.2.2.1 (F (F a 2) 1)) := by exact bko
theorem v_X10_fresh_48_11 {K : Nat → Nat} {F : Nat → Nat → Nat} (a : Nat) (G : XG)
    (bkn : BKr K G (G.2.2.1 (F (F a 2) 0))) :
    BKr K G (G.2.2.1 (F (F a 2) 0)) := by exact bkn
theorem v_X10_fresh_51_12 {F : Nat → Nat → Nat} (a : Nat) (q2 : Nat) (p0 : Int32) (G : XG) (x48 : Int32) (p1 : Int32)
    (hs2 : F q2 99 = 4 + (p0.toInt).toNat ∧ G.2.2.1 (F a 7) (p0.toInt).toNat = some q2)
    (oq48 : x48.toInt = smQ (seQ G (G.2.2.1 (F (F a 2) 0)) (vw (G.2.1 (F (F a 3) 0)))) (gaL G (G.2.2.1 (F (F a 2) 1)) (vw (G.2.1 (F (F a 4) 0))) (vw (G.2.1 (F q2 0))) 1 (((G.1 (F a 2) 2).toInt)).toNat))
    (ht2 : 0 ≤ p0.toInt ∧ p0.toInt < ((G.1 a 17).toInt) ∧ p0.toInt < 8)
    (c13 : p1.toInt = 1) :
    (((p0.toInt < 0 ∨ ((G.1 a 17).toInt) ≤ p0.toInt ∨ 8 ≤ p0.toInt) ∨ p1.toInt < 0 ∨ 1 < p1.toInt) ∧ x48.toInt = -1) ∨ (∃ q : Nat, (0 ≤ p0.toInt ∧ p0.toInt < ((G.1 a 17).toInt) ∧ p0.toInt < 8) ∧ G.2.2.1 (F a 7) (p0.toInt).toNat = some q ∧ ((p1.toInt = 0 ∧ x48.toInt = smQ (chQ G (G.2.2.1 (F (F a 2) 0)) (vw (G.2.1 (F q 0)))) (qL G F (F a 8))) ∨ (p1.toInt = 1 ∧ x48.toInt = smQ (seQ G (G.2.2.1 (F (F a 2) 0)) (vw (G.2.1 (F (F a 3) 0)))) (gaL G (G.2.2.1 (F (F a 2) 1)) (vw (G.2.1 (F (F a 4) 0))) (vw (G.2.1 (F q 0))) 1 (((G.1 (F a 2) 2).toInt)).toNat)))) := by
  exact Or.inr ⟨q2, ht2, hs2.2, Or.inr ⟨c13, oq48⟩⟩
theorem v_X10_wouldCut_6_1 {F : Nat → Nat → Nat} (a : Nat) (G : XG)
    (ron : RO (vw (G.2.1 (F (F a 3) 0))) (aI (G.2.1 (F (F a 3) 1)))) :
    RO (vw (G.2.1 (F (F a 3) 0))) (aI (G.2.1 (F (F a 3) 1))) := by exact ron
theorem v_X10_wouldCut_22_2 {F : Nat → Nat → Nat} (a : Nat) (G : XG)
    (ron : RO (vw (G.2.1 (F (F a 3) 0))) (aI (G.2.1 (F (F a 3) 1)))) :
    RO (vw (G.2.1 (F (F a 3) 0))) (aI (G.2.1 (F (F a 3) 1))) := by exact ron
theorem v_X10_wouldCut_39_3 {F : Nat → Nat → Nat} (G22 : XG) (a : Nat)
    (oq22a : RO (vw (G22.2.1 (F (F a 5) 0))) (aI (G22.2.1 (F (F a 5) 1)))) :
    RO (vw (G22.2.1 (F (F a 5) 0))) (aI (G22.2.1 (F (F a 5) 1))) := by
  exact oq22a
theorem v_X10_wouldCut_39_4 {K : Nat → Nat} {F : Nat → Nat → Nat} (a : Nat) (G : XG) (G22 : XG) (p0 : Int32) (p1 : Int32) (x6 : Int32)
    (ha : K a = 12)
    (hk9999 : K (F a 11) = 3)
    (hj9999 : F (F a 11) 99 = 0)
    (hk9999a : K (F a 9) = 6)
    (hj9999a : F (F a 9) 99 = 1)
    (hk9999b : K (F a 12) = 4)
    (hj9999b : F (F a 12) 99 = 0)
    (hk9999c : K (F (F a 11) 0) = 21)
    (hj9999c : F (F (F a 11) 0) 99 = 100)
    (hk9999d : K (F (F a 11) 1) = 21)
    (hj9999d : F (F (F a 11) 1) 99 = 101)
    (hk9999e : K (F (F a 11) 2) = 24)
    (hj9999e : F (F (F a 11) 2) 99 = 4)
    (hk9999f : K (F (F a 9) 0) = 22)
    (hj9999g : F (F (F a 9) 0) 99 = 10 * 1 + 0)
    (hk9999g : K (F (F a 9) 1) = 22)
    (hj9999i : F (F (F a 9) 1) 99 = 10 * 1 + 1)
    (hk9999h : K (F (F a 9) 2) = 22)
    (hj9999k : F (F (F a 9) 2) 99 = 10 * 1 + 2)
    (hk9999i : K (F (F a 9) 3) = 22)
    (hj9999m : F (F (F a 9) 3) 99 = 10 * 1 + 3)
    (hk9999j : K (F (F a 9) 4) = 23)
    (hj9999o : F (F (F a 9) 4) 99 = 10 * 1 + 4)
    (hk9999k : K (F (F a 9) 5) = 23)
    (hj9999q : F (F (F a 9) 5) 99 = 10 * 1 + 5)
    (hk9999l : K (F a 5) = 8)
    (hj9999r : F (F a 5) 99 = 2)
    (hk9999m : K (F (F a 5) 0) = 20)
    (hj9999t : F (F (F a 5) 0) 99 = 2)
    (hk9999n : K (F (F a 5) 1) = 21)
    (hj9999v : F (F (F a 5) 1) 99 = 2)
    (hk9999o : K (F (F a 12) 0) = 24)
    (hj9999w : F (F (F a 12) 0) 99 = 0)
    (hk9999p : K (F (F a 12) 1) = 24)
    (hj9999y : F (F (F a 12) 1) 99 = 1)
    (hk9999q : K (F (F a 12) 2) = 24)
    (hj9999z25 : F (F (F a 12) 2) 99 = 2)
    (hk9999r : K (F (F a 12) 3) = 24)
    (hj9999z26 : F (F (F a 12) 3) 99 = 3)
    (hk9999s : K (F a 2) = 2)
    (hj9999z27 : F (F a 2) 99 = 0)
    (hk9999t : K (F (F a 2) 1) = 15)
    (hj9999z28 : F (F (F a 2) 1) 99 = 1)
    (hk9999u : K (F (F a 2) 0) = 15)
    (hj9999z29 : F (F (F a 2) 0) 99 = 0)
    (hk9999v : K (F a 3) = 8)
    (hj9999z30 : F (F a 3) 99 = 0)
    (hk9999w : K (F (F a 3) 0) = 20)
    (hj9999z32 : F (F (F a 3) 0) 99 = 0)
    (hk9999y : K (F (F a 3) 1) = 21)
    (hj9999z34 : F (F (F a 3) 1) 99 = 0)
    (hfr : XFr [(F a 11, 3), (F a 9, 6), (F a 12, 4)] [F (F a 11) 0, F (F a 11) 1, F (F a 11) 2, F (F a 9) 0, F (F a 9) 1, F (F a 9) 2, F (F a 9) 3, F (F a 9) 4, F (F a 9) 5, F (F a 5) 0, F (F a 5) 1, F (F a 12) 0, F (F a 12) 1, F (F a 12) 2, F (F a 12) 3] [] G G22)
    (hF22 : XFr [] [F (F a 5) 0, F (F a 5) 1] [] G G22)
    (ron : RO (vw (G.2.1 (F (F a 3) 0))) (aI (G.2.1 (F (F a 3) 1))))
    (bko : BKr K G (G.2.2.1 (F (F a 2) 1)))
    (bkn : BKr K G (G.2.2.1 (F (F a 2) 0)))
    (hac : ACo G (G.2.2.1 (F (F a 2) 0)))
    (oq22 : (vw (G22.2.1 (F (F a 5) 0))) = (vw (G.2.1 (F (F a 3) 0))))
    (oq22a : RO (vw (G22.2.1 (F (F a 5) 0))) (aI (G22.2.1 (F (F a 5) 1))))
    (sb : 0 ≤ ((G.1 (F a 2) 2).toInt) ∧ ((G.1 (F a 2) 2).toInt) ≤ 12)
    (z5 : ¬ (0 ≤ p0.toInt ∧ p0.toInt < 3 ∧ 0 ≤ p1.toInt ∧ p1.toInt < 30) → (cel (vw (G.2.1 (F (F a 3) 0))) (p0.toInt) (p1.toInt) 0) = -2000)
    (t6 : (x6.toInt = 1 ∧ (cel (vw (G.2.1 (F (F a 3) 0))) (p0.toInt) (p1.toInt) 0) ≠ -2000) ∨ (x6.toInt = 0 ∧ (cel (vw (G.2.1 (F (F a 3) 0))) (p0.toInt) (p1.toInt) 0) = -2000))
    (c9 : x6.toInt ≠ 0)
    (z25 : (cel (vw (G22.2.1 (F (F a 5) 0))) (p0.toInt) (p1.toInt) 0) = (cel (vw (G.2.1 (F (F a 3) 0))) (p0.toInt) (p1.toInt) 0))
    (c_G22_F_F_a_11_0 : G22.2.1 (F (F a 11) 0) = G.2.1 (F (F a 11) 0))
    (c_G22_F_F_a_11_1 : G22.2.1 (F (F a 11) 1) = G.2.1 (F (F a 11) 1))
    (c_G22_F_F_a_11_2 : G22.2.1 (F (F a 11) 2) = G.2.1 (F (F a 11) 2))
    (c_G22_F_F_a_12_0 : G22.2.1 (F (F a 12) 0) = G.2.1 (F (F a 12) 0))
    (c_G22_F_F_a_12_1 : G22.2.1 (F (F a 12) 1) = G.2.1 (F (F a 12) 1))
    (c_G22_F_F_a_12_2 : G22.2.1 (F (F a 12) 2) = G.2.1 (F (F a 12) 2))
    (c_G22_F_F_a_12_3 : G22.2.1 (F (F a 12) 3) = G.2.1 (F (F a 12) 3))
    (c_G22_F_F_a_9_0 : G22.2.1 (F (F a 9) 0) = G.2.1 (F (F a 9) 0))
    (c_G22_F_F_a_9_1 : G22.2.1 (F (F a 9) 1) = G.2.1 (F (F a 9) 1))
    (c_G22_F_F_a_9_2 : G22.2.1 (F (F a 9) 2) = G.2.1 (F (F a 9) 2))
    (c_G22_F_F_a_9_3 : G22.2.1 (F (F a 9) 3) = G.2.1 (F (F a 9) 3))
    (c_G22_F_F_a_9_4 : G22.2.1 (F (F a 9) 4) = G.2.1 (F (F a 9) 4))
    (c_G22_F_F_a_9_5 : G22.2.1 (F (F a 9) 5) = G.2.1 (F (F a 9) 5))
    (r_G22_F_F_a_2_0 : G22.2.2.1 (F (F a 2) 0) = G.2.2.1 (F (F a 2) 0))
    (d_G22_F_a_11_3 : G22.1 (F a 11) 3 = G.1 (F a 11) 3)
    (d_G22_F_a_12_4 : G22.1 (F a 12) 4 = G.1 (F a 12) 4)
    (d_G22_F_a_9_6 : G22.1 (F a 9) 6 = G.1 (F a 9) 6) :
    BKr K G22 (G22.2.2.1 (F (F a 2) 0)) := by
  have hd : ∀ p, p ∈ [(F a 11, 3), (F a 9, 6), (F a 12, 4)] → K p.1 ≠ 9 := (List.forall_mem_cons.mpr ⟨(show K (F a 11) ≠ 9 by omega), List.forall_mem_cons.mpr ⟨(show K (F a 9) ≠ 9 by omega), List.forall_mem_cons.mpr ⟨(show K (F a 12) ≠ 9 by omega), fun _ h => by cases h⟩⟩⟩)
  rw [show G22.2.2.1 (F (F a 2) 0) = G.2.2.1 (F (F a 2) 0) by assumption]
  exact bkn.fr hfr hd
theorem v_X10_wouldCut_39_5 {K : Nat → Nat} {F : Nat → Nat → Nat} (a : Nat) (G : XG) (G22 : XG) (p0 : Int32) (p1 : Int32) (x6 : Int32)
    (ha : K a = 12)
    (hk9999 : K (F a 11) = 3)
    (hj9999 : F (F a 11) 99 = 0)
    (hk9999a : K (F a 9) = 6)
    (hj9999a : F (F a 9) 99 = 1)
    (hk9999b : K (F a 12) = 4)
    (hj9999b : F (F a 12) 99 = 0)
    (hk9999c : K (F (F a 11) 0) = 21)
    (hj9999c : F (F (F a 11) 0) 99 = 100)
    (hk9999d : K (F (F a 11) 1) = 21)
    (hj9999d : F (F (F a 11) 1) 99 = 101)
    (hk9999e : K (F (F a 11) 2) = 24)
    (hj9999e : F (F (F a 11) 2) 99 = 4)
    (hk9999f : K (F (F a 9) 0) = 22)
    (hj9999g : F (F (F a 9) 0) 99 = 10 * 1 + 0)
    (hk9999g : K (F (F a 9) 1) = 22)
    (hj9999i : F (F (F a 9) 1) 99 = 10 * 1 + 1)
    (hk9999h : K (F (F a 9) 2) = 22)
    (hj9999k : F (F (F a 9) 2) 99 = 10 * 1 + 2)
    (hk9999i : K (F (F a 9) 3) = 22)
    (hj9999m : F (F (F a 9) 3) 99 = 10 * 1 + 3)
    (hk9999j : K (F (F a 9) 4) = 23)
    (hj9999o : F (F (F a 9) 4) 99 = 10 * 1 + 4)
    (hk9999k : K (F (F a 9) 5) = 23)
    (hj9999q : F (F (F a 9) 5) 99 = 10 * 1 + 5)
    (hk9999l : K (F a 5) = 8)
    (hj9999r : F (F a 5) 99 = 2)
    (hk9999m : K (F (F a 5) 0) = 20)
    (hj9999t : F (F (F a 5) 0) 99 = 2)
    (hk9999n : K (F (F a 5) 1) = 21)
    (hj9999v : F (F (F a 5) 1) 99 = 2)
    (hk9999o : K (F (F a 12) 0) = 24)
    (hj9999w : F (F (F a 12) 0) 99 = 0)
    (hk9999p : K (F (F a 12) 1) = 24)
    (hj9999y : F (F (F a 12) 1) 99 = 1)
    (hk9999q : K (F (F a 12) 2) = 24)
    (hj9999z25 : F (F (F a 12) 2) 99 = 2)
    (hk9999r : K (F (F a 12) 3) = 24)
    (hj9999z26 : F (F (F a 12) 3) 99 = 3)
    (hk9999s : K (F a 2) = 2)
    (hj9999z27 : F (F a 2) 99 = 0)
    (hk9999t : K (F (F a 2) 1) = 15)
    (hj9999z28 : F (F (F a 2) 1) 99 = 1)
    (hk9999u : K (F (F a 2) 0) = 15)
    (hj9999z29 : F (F (F a 2) 0) 99 = 0)
    (hk9999v : K (F a 3) = 8)
    (hj9999z30 : F (F a 3) 99 = 0)
    (hk9999w : K (F (F a 3) 0) = 20)
    (hj9999z32 : F (F (F a 3) 0) 99 = 0)
    (hk9999y : K (F (F a 3) 1) = 21)
    (hj9999z34 : F (F (F a 3) 1) 99 = 0)
    (hfr : XFr [(F a 11, 3), (F a 9, 6), (F a 12, 4)] [F (F a 11) 0, F (F a 11) 1, F (F a 11) 2, F (F a 9) 0, F (F a 9) 1, F (F a 9) 2, F (F a 9) 3, F (F a 9) 4, F (F a 9) 5, F (F a 5) 0, F (F a 5) 1, F (F a 12) 0, F (F a 12) 1, F (F a 12) 2, F (F a 12) 3] [] G G22)
    (hF22 : XFr [] [F (F a 5) 0, F (F a 5) 1] [] G G22)
    (ron : RO (vw (G.2.1 (F (F a 3) 0))) (aI (G.2.1 (F (F a 3) 1))))
    (bko : BKr K G (G.2.2.1 (F (F a 2) 1)))
    (bkn : BKr K G (G.2.2.1 (F (F a 2) 0)))
    (hac : ACo G (G.2.2.1 (F (F a 2) 0)))
    (oq22 : (vw (G22.2.1 (F (F a 5) 0))) = (vw (G.2.1 (F (F a 3) 0))))
    (oq22a : RO (vw (G22.2.1 (F (F a 5) 0))) (aI (G22.2.1 (F (F a 5) 1))))
    (sb : 0 ≤ ((G.1 (F a 2) 2).toInt) ∧ ((G.1 (F a 2) 2).toInt) ≤ 12)
    (z5 : ¬ (0 ≤ p0.toInt ∧ p0.toInt < 3 ∧ 0 ≤ p1.toInt ∧ p1.toInt < 30) → (cel (vw (G.2.1 (F (F a 3) 0))) (p0.toInt) (p1.toInt) 0) = -2000)
    (t6 : (x6.toInt = 1 ∧ (cel (vw (G.2.1 (F (F a 3) 0))) (p0.toInt) (p1.toInt) 0) ≠ -2000) ∨ (x6.toInt = 0 ∧ (cel (vw (G.2.1 (F (F a 3) 0))) (p0.toInt) (p1.toInt) 0) = -2000))
    (c9 : x6.toInt ≠ 0)
    (z25 : (cel (vw (G22.2.1 (F (F a 5) 0))) (p0.toInt) (p1.toInt) 0) = (cel (vw (G.2.1 (F (F a 3) 0))) (p0.toInt) (p1.toInt) 0))
    (c_G22_F_F_a_11_0 : G22.2.1 (F (F a 11) 0) = G.2.1 (F (F a 11) 0))
    (c_G22_F_F_a_11_1 : G22.2.1 (F (F a 11) 1) = G.2.1 (F (F a 11) 1))
    (c_G22_F_F_a_11_2 : G22.2.1 (F (F a 11) 2) = G.2.1 (F (F a 11) 2))
    (c_G22_F_F_a_12_0 : G22.2.1 (F (F a 12) 0) = G.2.1 (F (F a 12) 0))
    (c_G22_F_F_a_12_1 : G22.2.1 (F (F a 12) 1) = G.2.1 (F (F a 12) 1))
    (c_G22_F_F_a_12_2 : G22.2.1 (F (F a 12) 2) = G.2.1 (F (F a 12) 2))
    (c_G22_F_F_a_12_3 : G22.2.1 (F (F a 12) 3) = G.2.1 (F (F a 12) 3))
    (c_G22_F_F_a_9_0 : G22.2.1 (F (F a 9) 0) = G.2.1 (F (F a 9) 0))
    (c_G22_F_F_a_9_1 : G22.2.1 (F (F a 9) 1) = G.2.1 (F (F a 9) 1))
    (c_G22_F_F_a_9_2 : G22.2.1 (F (F a 9) 2) = G.2.1 (F (F a 9) 2))
    (c_G22_F_F_a_9_3 : G22.2.1 (F (F a 9) 3) = G.2.1 (F (F a 9) 3))
    (c_G22_F_F_a_9_4 : G22.2.1 (F (F a 9) 4) = G.2.1 (F (F a 9) 4))
    (c_G22_F_F_a_9_5 : G22.2.1 (F (F a 9) 5) = G.2.1 (F (F a 9) 5))
    (r_G22_F_F_a_2_0 : G22.2.2.1 (F (F a 2) 0) = G.2.2.1 (F (F a 2) 0))
    (d_G22_F_a_11_3 : G22.1 (F a 11) 3 = G.1 (F a 11) 3)
    (d_G22_F_a_12_4 : G22.1 (F a 12) 4 = G.1 (F a 12) 4)
    (d_G22_F_a_9_6 : G22.1 (F a 9) 6 = G.1 (F a 9) 6) :
    ACo G22 (G22.2.2.1 (F (F a 2) 0)) := by
  have hd : ∀ p, p ∈ [(F a 11, 3), (F a 9, 6), (F a 12, 4)] → K p.1 ≠ 9 := (List.forall_mem_cons.mpr ⟨(show K (F a 11) ≠ 9 by omega), List.forall_mem_cons.mpr ⟨(show K (F a 9) ≠ 9 by omega), List.forall_mem_cons.mpr ⟨(show K (F a 12) ≠ 9 by omega), fun _ h => by cases h⟩⟩⟩)
  rw [show G22.2.2.1 (F (F a 2) 0) = G.2.2.1 (F (F a 2) 0) by assumption]
  exact hac.cg (fun i q hi hq => hfr.rule hd (bkn i q hi hq).1)
theorem v_X10_wouldCut_102_6 {K : Nat → Nat} {F : Nat → Nat → Nat} (a : Nat) (G : XG) (G22 : XG) (p0 : Int32) (p1 : Int32) (x6 : Int32) (p2 : Int32)
    (ha : K a = 12)
    (sb : 0 ≤ ((G.1 (F a 2) 2).toInt) ∧ ((G.1 (F a 2) 2).toInt) ≤ 12)
    (z5 : ¬ (0 ≤ p0.toInt ∧ p0.toInt < 3 ∧ 0 ≤ p1.toInt ∧ p1.toInt < 30) → (cel (vw (G.2.1 (F (F a 3) 0))) (p0.toInt) (p1.toInt) 0) = -2000)
    (t6 : (x6.toInt = 1 ∧ (cel (vw (G.2.1 (F (F a 3) 0))) (p0.toInt) (p1.toInt) 0) ≠ -2000) ∨ (x6.toInt = 0 ∧ (cel (vw (G.2.1 (F (F a 3) 0))) (p0.toInt) (p1.toInt) 0) = -2000))
    (c9 : x6.toInt ≠ 0)
    (z25 : (cel (vw (G22.2.1 (F (F a 5) 0))) (p0.toInt) (p1.toInt) 0) = (cel (vw (G.2.1 (F (F a 3) 0))) (p0.toInt) (p1.toInt) 0))
    (c43 : p2.toInt < 0 ∨ 2 < p2.toInt) :
    (cel (vw (G.2.1 (F (F a 3) 0))) p0.toInt p1.toInt 0 = -2000 ∧ (-1 : Int) = -1) ∨ (cel (vw (G.2.1 (F (F a 3) 0))) p0.toInt p1.toInt 0 ≠ -2000 ∧ ((p2.toInt = 0 ∧ ∃ b : Int → Int, RO (cfin (clsA G (G.2.2.1 (F (F a 2) 0))) (clsT G (G.2.2.1 (F (F a 2) 0))) (clsC G (G.2.2.1 (F (F a 2) 0))) ([(p0.toInt, p1.toInt, 0, 0)], rfil (vw (G.2.1 (F (F a 3) 0))) p0.toInt p1.toInt (-2000) 3)) b ∧ (-1 : Int) = toB (aI (G.2.1 (F (F a 3) 1))) 3 - toB b 3) ∨ (p2.toInt = 1 ∧ (-1 : Int) = bsI (nn1 (cfin (clsA G (G.2.2.1 (F (F a 2) 0))) (clsT G (G.2.2.1 (F (F a 2) 0))) (clsC G (G.2.2.1 (F (F a 2) 0))) ([(p0.toInt, p1.toInt, 0, 0)], rfil (vw (G.2.1 (F (F a 3) 0))) p0.toInt p1.toInt (-2000) 3)) (vw (G.2.1 (F (F a 3) 0)))) 270) ∨ (p2.toInt = 2 ∧ AnsR ((G.1 a 18).toInt) (-1 : Int) (gaL G (G.2.2.1 (F (F a 2) 1)) (vw (G.2.1 (F (F a 3) 0))) (cfin (clsA G (G.2.2.1 (F (F a 2) 0))) (clsT G (G.2.2.1 (F (F a 2) 0))) (clsC G (G.2.2.1 (F (F a 2) 0))) ([(p0.toInt, p1.toInt, 0, 0)], rfil (vw (G.2.1 (F (F a 3) 0))) p0.toInt p1.toInt (-2000) 3)) 0 (((G.1 (F a 2) 2).toInt)).toNat)) ∨ ((p2.toInt < 0 ∨ 2 < p2.toInt) ∧ (-1 : Int) = -1))) := by
  exact Or.inr ⟨by omega, Or.inr (Or.inr (Or.inr ⟨by omega, rfl⟩))⟩
theorem v_X10_wouldCut_72_7 {F : Nat → Nat → Nat} (a : Nat) (G : XG) (G39 : XG) (G22 : XG)
    (ron : RO (vw (G.2.1 (F (F a 3) 0))) (aI (G.2.1 (F (F a 3) 1))))
    (oq22a : RO (vw (G22.2.1 (F (F a 5) 0))) (aI (G22.2.1 (F (F a 5) 1))))
    (oq39a : RO (vw (G39.2.1 (F (F a 5) 0))) (aI (G39.2.1 (F (F a 5) 1))))
    (c_G39_F_F_a_3_0 : G39.2.1 (F (F a 3) 0) = G.2.1 (F (F a 3) 0))
    (c_G39_F_F_a_3_1 : G39.2.1 (F (F a 3) 1) = G.2.1 (F (F a 3) 1)) :
    RO (vw (G39.2.1 (F (F a 3) 0))) (aI (G39.2.1 (F (F a 3) 1))) := by simp only [c_G39_F_F_a_3_0, c_G39_F_F_a_3_1]; assumption
theorem v_X10_wouldCut_79_8 {F : Nat → Nat → Nat} (G39 : XG) (a : Nat)
    (oq39a : RO (vw (G39.2.1 (F (F a 5) 0))) (aI (G39.2.1 (F (F a 5) 1)))) :
    RO (vw (G39.2.1 (F (F a 5) 0))) (aI (G39.2.1 (F (F a 5) 1))) := by
  exact oq39a
theorem v_X10_wouldCut_83_9 {K : Nat → Nat} {F : Nat → Nat → Nat} (a : Nat) (G : XG) (G39 : XG) (G22 : XG) (p0 : Int32) (p1 : Int32) (x72 : Int32) (x79 : Int32) (x6 : Int32) (p2 : Int32)
    (ha : K a = 12)
    (hk9999 : K (F a 11) = 3)
    (hj9999 : F (F a 11) 99 = 0)
    (hk9999a : K (F a 9) = 6)
    (hj9999a : F (F a 9) 99 = 1)
    (hk9999b : K (F a 12) = 4)
    (hj9999b : F (F a 12) 99 = 0)
    (hk9999c : K (F (F a 11) 0) = 21)
    (hj9999c : F (F (F a 11) 0) 99 = 100)
    (hk9999d : K (F (F a 11) 1) = 21)
    (hj9999d : F (F (F a 11) 1) 99 = 101)
    (hk9999e : K (F (F a 11) 2) = 24)
    (hj9999e : F (F (F a 11) 2) 99 = 4)
    (hk9999f : K (F (F a 9) 0) = 22)
    (hj9999g : F (F (F a 9) 0) 99 = 10 * 1 + 0)
    (hk9999g : K (F (F a 9) 1) = 22)
    (hj9999i : F (F (F a 9) 1) 99 = 10 * 1 + 1)
    (hk9999h : K (F (F a 9) 2) = 22)
    (hj9999k : F (F (F a 9) 2) 99 = 10 * 1 + 2)
    (hk9999i : K (F (F a 9) 3) = 22)
    (hj9999m : F (F (F a 9) 3) 99 = 10 * 1 + 3)
    (hk9999j : K (F (F a 9) 4) = 23)
    (hj9999o : F (F (F a 9) 4) 99 = 10 * 1 + 4)
    (hk9999k : K (F (F a 9) 5) = 23)
    (hj9999q : F (F (F a 9) 5) 99 = 10 * 1 + 5)
    (hk9999l : K (F a 5) = 8)
    (hj9999r : F (F a 5) 99 = 2)
    (hk9999m : K (F (F a 5) 0) = 20)
    (hj9999t : F (F (F a 5) 0) 99 = 2)
    (hk9999n : K (F (F a 5) 1) = 21)
    (hj9999v : F (F (F a 5) 1) 99 = 2)
    (hk9999o : K (F (F a 12) 0) = 24)
    (hj9999w : F (F (F a 12) 0) 99 = 0)
    (hk9999p : K (F (F a 12) 1) = 24)
    (hj9999y : F (F (F a 12) 1) 99 = 1)
    (hk9999q : K (F (F a 12) 2) = 24)
    (hj9999z25 : F (F (F a 12) 2) 99 = 2)
    (hk9999r : K (F (F a 12) 3) = 24)
    (hj9999z26 : F (F (F a 12) 3) 99 = 3)
    (hk9999s : K (F a 2) = 2)
    (hj9999z27 : F (F a 2) 99 = 0)
    (hk9999t : K (F (F a 2) 1) = 15)
    (hj9999z28 : F (F (F a 2) 1) 99 = 1)
    (hk9999u : K (F (F a 2) 0) = 15)
    (hj9999z29 : F (F (F a 2) 0) 99 = 0)
    (hk9999v : K (F a 3) = 8)
    (hj9999z30 : F (F a 3) 99 = 0)
    (hk9999w : K (F (F a 3) 0) = 20)
    (hj9999z32 : F (F (F a 3) 0) 99 = 0)
    (hk9999y : K (F (F a 3) 1) = 21)
    (hj9999z34 : F (F (F a 3) 1) 99 = 0)
    (hF22 : XFr [] [F (F a 5) 0, F (F a 5) 1] [] G G22)
    (bkn : BKr K G (G.2.2.1 (F (F a 2) 0)))
    (oq22 : (vw (G22.2.1 (F (F a 5) 0))) = (vw (G.2.1 (F (F a 3) 0))))
    (oq39 : (vw (G39.2.1 (F (F a 5) 0))) = cfin (clsA G22 (G22.2.2.1 (F (F a 2) 0))) (clsT G22 (G22.2.2.1 (F (F a 2) 0))) (clsC G22 (G22.2.2.1 (F (F a 2) 0))) ([(p0.toInt, p1.toInt, 0, 0)], rfil (vw (G22.2.1 (F (F a 5) 0))) p0.toInt p1.toInt (-2000) 3))
    (oq39a : RO (vw (G39.2.1 (F (F a 5) 0))) (aI (G39.2.1 (F (F a 5) 1))))
    (sb : 0 ≤ ((G.1 (F a 2) 2).toInt) ∧ ((G.1 (F a 2) 2).toInt) ≤ 12)
    (z5 : ¬ (0 ≤ p0.toInt ∧ p0.toInt < 3 ∧ 0 ≤ p1.toInt ∧ p1.toInt < 30) → (cel (vw (G.2.1 (F (F a 3) 0))) (p0.toInt) (p1.toInt) 0) = -2000)
    (t6 : (x6.toInt = 1 ∧ (cel (vw (G.2.1 (F (F a 3) 0))) (p0.toInt) (p1.toInt) 0) ≠ -2000) ∨ (x6.toInt = 0 ∧ (cel (vw (G.2.1 (F (F a 3) 0))) (p0.toInt) (p1.toInt) 0) = -2000))
    (c9 : x6.toInt ≠ 0)
    (z25 : (cel (vw (G22.2.1 (F (F a 5) 0))) (p0.toInt) (p1.toInt) 0) = (cel (vw (G.2.1 (F (F a 3) 0))) (p0.toInt) (p1.toInt) 0))
    (c43 : p2.toInt = 0)
    (t72 : x72.toInt = (toB (aI (G.2.1 (F (F a 3) 1))) 3) ∧ (0 ≤ x72.toInt ∧ x72.toInt ≤ 90))
    (t79 : x79.toInt = (toB (aI (G39.2.1 (F (F a 5) 1))) 3) ∧ (0 ≤ x79.toInt ∧ x79.toInt ≤ 90))
    (r_G22_F_F_a_2_0 : G22.2.2.1 (F (F a 2) 0) = G.2.2.1 (F (F a 2) 0)) :
    (cel (vw (G.2.1 (F (F a 3) 0))) p0.toInt p1.toInt 0 = -2000 ∧ (x72.toInt - x79.toInt) = -1) ∨ (cel (vw (G.2.1 (F (F a 3) 0))) p0.toInt p1.toInt 0 ≠ -2000 ∧ ((p2.toInt = 0 ∧ ∃ b : Int → Int, RO (cfin (clsA G (G.2.2.1 (F (F a 2) 0))) (clsT G (G.2.2.1 (F (F a 2) 0))) (clsC G (G.2.2.1 (F (F a 2) 0))) ([(p0.toInt, p1.toInt, 0, 0)], rfil (vw (G.2.1 (F (F a 3) 0))) p0.toInt p1.toInt (-2000) 3)) b ∧ (x72.toInt - x79.toInt) = toB (aI (G.2.1 (F (F a 3) 1))) 3 - toB b 3) ∨ (p2.toInt = 1 ∧ (x72.toInt - x79.toInt) = bsI (nn1 (cfin (clsA G (G.2.2.1 (F (F a 2) 0))) (clsT G (G.2.2.1 (F (F a 2) 0))) (clsC G (G.2.2.1 (F (F a 2) 0))) ([(p0.toInt, p1.toInt, 0, 0)], rfil (vw (G.2.1 (F (F a 3) 0))) p0.toInt p1.toInt (-2000) 3)) (vw (G.2.1 (F (F a 3) 0)))) 270) ∨ (p2.toInt = 2 ∧ AnsR ((G.1 a 18).toInt) (x72.toInt - x79.toInt) (gaL G (G.2.2.1 (F (F a 2) 1)) (vw (G.2.1 (F (F a 3) 0))) (cfin (clsA G (G.2.2.1 (F (F a 2) 0))) (clsT G (G.2.2.1 (F (F a 2) 0))) (clsC G (G.2.2.1 (F (F a 2) 0))) ([(p0.toInt, p1.toInt, 0, 0)], rfil (vw (G.2.1 (F (F a 3) 0))) p0.toInt p1.toInt (-2000) 3)) 0 (((G.1 (F a 2) 2).toInt)).toNat)) ∨ ((p2.toInt < 0 ∨ 2 < p2.toInt) ∧ (x72.toInt - x79.toInt) = -1))) := by
  have hd0 : ∀ p, p ∈ ([] : List (Nat × Nat)) → K p.1 ≠ 9 := fun _ h => by cases h
  have hd4 : ∀ p, p ∈ [(F a 12, 4)] → K p.1 ≠ 9 := (List.forall_mem_cons.mpr ⟨(show K (F a 12) ≠ 9 by omega), fun _ h => by cases h⟩)
  have h0 : ∀ (i q : Nat), i < 12 → G.2.2.1 (F (F a 2) 0) i = some q → G22.1 q = G.1 q := fun i q hi hq => hF22.rule hd0 (bkn i q hi hq).1
  rw [r_G22_F_F_a_2_0, (cls_cg h0).1, (cls_cg h0).2.1, (cls_cg h0).2.2, oq22] at oq39
  exact Or.inr ⟨by omega, Or.inl ⟨by omega, aI (G39.2.1 (F (F a 5) 1)), by rw [← oq39]; exact oq39a, by omega⟩⟩
theorem v_X10_wouldCut_95_10 {K : Nat → Nat} {F : Nat → Nat → Nat} (a : Nat) (G : XG) (G39 : XG) (G22 : XG) (p0 : Int32) (p1 : Int32) (x6 : Int32) (p2 : Int32)
    (ha : K a = 12)
    (hk9999 : K (F a 11) = 3)
    (hj9999 : F (F a 11) 99 = 0)
    (hk9999a : K (F a 9) = 6)
    (hj9999a : F (F a 9) 99 = 1)
    (hk9999b : K (F a 12) = 4)
    (hj9999b : F (F a 12) 99 = 0)
    (hk9999c : K (F (F a 11) 0) = 21)
    (hj9999c : F (F (F a 11) 0) 99 = 100)
    (hk9999d : K (F (F a 11) 1) = 21)
    (hj9999d : F (F (F a 11) 1) 99 = 101)
    (hk9999e : K (F (F a 11) 2) = 24)
    (hj9999e : F (F (F a 11) 2) 99 = 4)
    (hk9999f : K (F (F a 9) 0) = 22)
    (hj9999g : F (F (F a 9) 0) 99 = 10 * 1 + 0)
    (hk9999g : K (F (F a 9) 1) = 22)
    (hj9999i : F (F (F a 9) 1) 99 = 10 * 1 + 1)
    (hk9999h : K (F (F a 9) 2) = 22)
    (hj9999k : F (F (F a 9) 2) 99 = 10 * 1 + 2)
    (hk9999i : K (F (F a 9) 3) = 22)
    (hj9999m : F (F (F a 9) 3) 99 = 10 * 1 + 3)
    (hk9999j : K (F (F a 9) 4) = 23)
    (hj9999o : F (F (F a 9) 4) 99 = 10 * 1 + 4)
    (hk9999k : K (F (F a 9) 5) = 23)
    (hj9999q : F (F (F a 9) 5) 99 = 10 * 1 + 5)
    (hk9999l : K (F a 5) = 8)
    (hj9999r : F (F a 5) 99 = 2)
    (hk9999m : K (F (F a 5) 0) = 20)
    (hj9999t : F (F (F a 5) 0) 99 = 2)
    (hk9999n : K (F (F a 5) 1) = 21)
    (hj9999v : F (F (F a 5) 1) 99 = 2)
    (hk9999o : K (F (F a 12) 0) = 24)
    (hj9999w : F (F (F a 12) 0) 99 = 0)
    (hk9999p : K (F (F a 12) 1) = 24)
    (hj9999y : F (F (F a 12) 1) 99 = 1)
    (hk9999q : K (F (F a 12) 2) = 24)
    (hj9999z25 : F (F (F a 12) 2) 99 = 2)
    (hk9999r : K (F (F a 12) 3) = 24)
    (hj9999z26 : F (F (F a 12) 3) 99 = 3)
    (hk9999s : K (F a 2) = 2)
    (hj9999z27 : F (F a 2) 99 = 0)
    (hk9999t : K (F (F a 2) 1) = 15)
    (hj9999z28 : F (F (F a 2) 1) 99 = 1)
    (hk9999u : K (F (F a 2) 0) = 15)
    (hj9999z29 : F (F (F a 2) 0) 99 = 0)
    (hk9999v : K (F a 3) = 8)
    (hj9999z30 : F (F a 3) 99 = 0)
    (hk9999w : K (F (F a 3) 0) = 20)
    (hj9999z32 : F (F (F a 3) 0) 99 = 0)
    (hk9999y : K (F (F a 3) 1) = 21)
    (hj9999z34 : F (F (F a 3) 1) 99 = 0)
    (hF22 : XFr [] [F (F a 5) 0, F (F a 5) 1] [] G G22)
    (bkn : BKr K G (G.2.2.1 (F (F a 2) 0)))
    (oq22 : (vw (G22.2.1 (F (F a 5) 0))) = (vw (G.2.1 (F (F a 3) 0))))
    (oq39 : (vw (G39.2.1 (F (F a 5) 0))) = cfin (clsA G22 (G22.2.2.1 (F (F a 2) 0))) (clsT G22 (G22.2.2.1 (F (F a 2) 0))) (clsC G22 (G22.2.2.1 (F (F a 2) 0))) ([(p0.toInt, p1.toInt, 0, 0)], rfil (vw (G22.2.1 (F (F a 5) 0))) p0.toInt p1.toInt (-2000) 3))
    (sb : 0 ≤ ((G.1 (F a 2) 2).toInt) ∧ ((G.1 (F a 2) 2).toInt) ≤ 12)
    (z5 : ¬ (0 ≤ p0.toInt ∧ p0.toInt < 3 ∧ 0 ≤ p1.toInt ∧ p1.toInt < 30) → (cel (vw (G.2.1 (F (F a 3) 0))) (p0.toInt) (p1.toInt) 0) = -2000)
    (t6 : (x6.toInt = 1 ∧ (cel (vw (G.2.1 (F (F a 3) 0))) (p0.toInt) (p1.toInt) 0) ≠ -2000) ∨ (x6.toInt = 0 ∧ (cel (vw (G.2.1 (F (F a 3) 0))) (p0.toInt) (p1.toInt) 0) = -2000))
    (c9 : x6.toInt ≠ 0)
    (z25 : (cel (vw (G22.2.1 (F (F a 5) 0))) (p0.toInt) (p1.toInt) 0) = (cel (vw (G.2.1 (F (F a 3) 0))) (p0.toInt) (p1.toInt) 0))
    (c43 : p2.toInt = 1)
    (r_G22_F_F_a_2_0 : G22.2.2.1 (F (F a 2) 0) = G.2.2.1 (F (F a 2) 0)) :
    (cel (vw (G.2.1 (F (F a 3) 0))) p0.toInt p1.toInt 0 = -2000 ∧ (bsI (nn1 (vw (G39.2.1 (F (F a 5) 0))) (vw (G.2.1 (F (F a 3) 0)))) 270) = -1) ∨ (cel (vw (G.2.1 (F (F a 3) 0))) p0.toInt p1.toInt 0 ≠ -2000 ∧ ((p2.toInt = 0 ∧ ∃ b : Int → Int, RO (cfin (clsA G (G.2.2.1 (F (F a 2) 0))) (clsT G (G.2.2.1 (F (F a 2) 0))) (clsC G (G.2.2.1 (F (F a 2) 0))) ([(p0.toInt, p1.toInt, 0, 0)], rfil (vw (G.2.1 (F (F a 3) 0))) p0.toInt p1.toInt (-2000) 3)) b ∧ (bsI (nn1 (vw (G39.2.1 (F (F a 5) 0))) (vw (G.2.1 (F (F a 3) 0)))) 270) = toB (aI (G.2.1 (F (F a 3) 1))) 3 - toB b 3) ∨ (p2.toInt = 1 ∧ (bsI (nn1 (vw (G39.2.1 (F (F a 5) 0))) (vw (G.2.1 (F (F a 3) 0)))) 270) = bsI (nn1 (cfin (clsA G (G.2.2.1 (F (F a 2) 0))) (clsT G (G.2.2.1 (F (F a 2) 0))) (clsC G (G.2.2.1 (F (F a 2) 0))) ([(p0.toInt, p1.toInt, 0, 0)], rfil (vw (G.2.1 (F (F a 3) 0))) p0.toInt p1.toInt (-2000) 3)) (vw (G.2.1 (F (F a 3) 0)))) 270) ∨ (p2.toInt = 2 ∧ AnsR ((G.1 a 18).toInt) (bsI (nn1 (vw (G39.2.1 (F (F a 5) 0))) (vw (G.2.1 (F (F a 3) 0)))) 270) (gaL G (G.2.2.1 (F (F a 2) 1)) (vw (G.2.1 (F (F a 3) 0))) (cfin (clsA G (G.2.2.1 (F (F a 2) 0))) (clsT G (G.2.2.1 (F (F a 2) 0))) (clsC G (G.2.2.1 (F (F a 2) 0))) ([(p0.toInt, p1.toInt, 0, 0)], rfil (vw (G.2.1 (F (F a 3) 0))) p0.toInt p1.toInt (-2000) 3)) 0 (((G.1 (F a 2) 2).toInt)).toNat)) ∨ ((p2.toInt < 0 ∨ 2 < p2.toInt) ∧ (bsI (nn1 (vw (G39.2.1 (F (F a 5) 0))) (vw (G.2.1 (F (F a 3) 0)))) 270) = -1))) := by
  have hd0 : ∀ p, p ∈ ([] : List (Nat × Nat)) → K p.1 ≠ 9 := fun _ h => by cases h
  have hd4 : ∀ p, p ∈ [(F a 12, 4)] → K p.1 ≠ 9 := (List.forall_mem_cons.mpr ⟨(show K (F a 12) ≠ 9 by omega), fun _ h => by cases h⟩)
  have h0 : ∀ (i q : Nat), i < 12 → G.2.2.1 (F (F a 2) 0) i = some q → G22.1 q = G.1 q := fun i q hi hq => hF22.rule hd0 (bkn i q hi hq).1
  rw [r_G22_F_F_a_2_0, (cls_cg h0).1, (cls_cg h0).2.1, (cls_cg h0).2.2, oq22] at oq39
  rw [← oq39]
  exact Or.inr ⟨by omega, Or.inr (Or.inl ⟨by omega, by first | rfl | omega⟩)⟩
theorem v_X10_wouldCut_97_11 {F : Nat → Nat → Nat} (a : Nat) (G : XG) (G39 : XG) (G22 : XG)
    (ron : RO (vw (G.2.1 (F (F a 3) 0))) (aI (G.2.1 (F (F a 3) 1))))
    (oq22a : RO (vw (G22.2.1 (F (F a 5) 0))) (aI (G22.2.1 (F (F a 5) 1))))
    (oq39a : RO (vw (G39.2.1 (F (F a 5) 0))) (aI (G39.2.1 (F (F a 5) 1))))
    (c_G39_F_F_a_3_0 : G39.2.1 (F (F a 3) 0) = G.2.1 (F (F a 3) 0))
    (c_G39_F_F_a_3_1 : G39.2.1 (F (F a 3) 1) = G.2.1 (F (F a 3) 1)) :
    RO (vw (G39.2.1 (F (F a 3) 0))) (aI (G39.2.1 (F (F a 3) 1))) := by simp only [c_G39_F_F_a_3_0, c_G39_F_F_a_3_1]; assumption
theorem v_X10_wouldCut_97_12 {F : Nat → Nat → Nat} (G39 : XG) (a : Nat)
    (oq39a : RO (vw (G39.2.1 (F (F a 5) 0))) (aI (G39.2.1 (F (F a 5) 1)))) :
    RO (vw (G39.2.1 (F (F a 5) 0))) (aI (G39.2.1 (F (F a 5) 1))) := by
  exact oq39a
theorem v_X10_wouldCut_97_13 {K : Nat → Nat} {F : Nat → Nat → Nat} (a : Nat) (G : XG) (G39 : XG) (G22 : XG) (p0 : Int32) (p1 : Int32) (x6 : Int32) (p2 : Int32)
    (ha : K a = 12)
    (hk9999 : K (F a 11) = 3)
    (hj9999 : F (F a 11) 99 = 0)
    (hk9999a : K (F a 9) = 6)
    (hj9999a : F (F a 9) 99 = 1)
    (hk9999b : K (F a 12) = 4)
    (hj9999b : F (F a 12) 99 = 0)
    (hk9999c : K (F (F a 11) 0) = 21)
    (hj9999c : F (F (F a 11) 0) 99 = 100)
    (hk9999d : K (F (F a 11) 1) = 21)
    (hj9999d : F (F (F a 11) 1) 99 = 101)
    (hk9999e : K (F (F a 11) 2) = 24)
    (hj9999e : F (F (F a 11) 2) 99 = 4)
    (hk9999f : K (F (F a 9) 0) = 22)
    (hj9999g : F (F (F a 9) 0) 99 = 10 * 1 + 0)
    (hk9999g : K (F (F a 9) 1) = 22)
    (hj9999i : F (F (F a 9) 1) 99 = 10 * 1 + 1)
    (hk9999h : K (F (F a 9) 2) = 22)
    (hj9999k : F (F (F a 9) 2) 99 = 10 * 1 + 2)
    (hk9999i : K (F (F a 9) 3) = 22)
    (hj9999m : F (F (F a 9) 3) 99 = 10 * 1 + 3)
    (hk9999j : K (F (F a 9) 4) = 23)
    (hj9999o : F (F (F a 9) 4) 99 = 10 * 1 + 4)
    (hk9999k : K (F (F a 9) 5) = 23)
    (hj9999q : F (F (F a 9) 5) 99 = 10 * 1 + 5)
    (hk9999l : K (F a 5) = 8)
    (hj9999r : F (F a 5) 99 = 2)
    (hk9999m : K (F (F a 5) 0) = 20)
    (hj9999t : F (F (F a 5) 0) 99 = 2)
    (hk9999n : K (F (F a 5) 1) = 21)
    (hj9999v : F (F (F a 5) 1) 99 = 2)
    (hk9999o : K (F (F a 12) 0) = 24)
    (hj9999w : F (F (F a 12) 0) 99 = 0)
    (hk9999p : K (F (F a 12) 1) = 24)
    (hj9999y : F (F (F a 12) 1) 99 = 1)
    (hk9999q : K (F (F a 12) 2) = 24)
    (hj9999z25 : F (F (F a 12) 2) 99 = 2)
    (hk9999r : K (F (F a 12) 3) = 24)
    (hj9999z26 : F (F (F a 12) 3) 99 = 3)
    (hk9999s : K (F a 2) = 2)
    (hj9999z27 : F (F a 2) 99 = 0)
    (hk9999t : K (F (F a 2) 1) = 15)
    (hj9999z28 : F (F (F a 2) 1) 99 = 1)
    (hk9999u : K (F (F a 2) 0) = 15)
    (hj9999z29 : F (F (F a 2) 0) 99 = 0)
    (hk9999v : K (F a 3) = 8)
    (hj9999z30 : F (F a 3) 99 = 0)
    (hk9999w : K (F (F a 3) 0) = 20)
    (hj9999z32 : F (F (F a 3) 0) 99 = 0)
    (hk9999y : K (F (F a 3) 1) = 21)
    (hj9999z34 : F (F (F a 3) 1) 99 = 0)
    (hfr : XFr [(F a 11, 3), (F a 9, 6), (F a 12, 4)] [F (F a 11) 0, F (F a 11) 1, F (F a 11) 2, F (F a 9) 0, F (F a 9) 1, F (F a 9) 2, F (F a 9) 3, F (F a 9) 4, F (F a 9) 5, F (F a 5) 0, F (F a 5) 1, F (F a 12) 0, F (F a 12) 1, F (F a 12) 2, F (F a 12) 3] [] G G39)
    (hF22 : XFr [] [F (F a 5) 0, F (F a 5) 1] [] G G22)
    (hF39 : XFr [(F a 12, 4)] [F (F a 12) 0, F (F a 12) 1, F (F a 12) 2, F (F a 12) 3, F (F a 5) 0, F (F a 5) 1] [] G22 G39)
    (ron : RO (vw (G.2.1 (F (F a 3) 0))) (aI (G.2.1 (F (F a 3) 1))))
    (bko : BKr K G (G.2.2.1 (F (F a 2) 1)))
    (bkn : BKr K G (G.2.2.1 (F (F a 2) 0)))
    (hac : ACo G (G.2.2.1 (F (F a 2) 0)))
    (oq22 : (vw (G22.2.1 (F (F a 5) 0))) = (vw (G.2.1 (F (F a 3) 0))))
    (oq22a : RO (vw (G22.2.1 (F (F a 5) 0))) (aI (G22.2.1 (F (F a 5) 1))))
    (oq39 : (vw (G39.2.1 (F (F a 5) 0))) = cfin (clsA G22 (G22.2.2.1 (F (F a 2) 0))) (clsT G22 (G22.2.2.1 (F (F a 2) 0))) (clsC G22 (G22.2.2.1 (F (F a 2) 0))) ([(p0.toInt, p1.toInt, 0, 0)], rfil (vw (G22.2.1 (F (F a 5) 0))) p0.toInt p1.toInt (-2000) 3))
    (oq39a : RO (vw (G39.2.1 (F (F a 5) 0))) (aI (G39.2.1 (F (F a 5) 1))))
    (sb : 0 ≤ ((G.1 (F a 2) 2).toInt) ∧ ((G.1 (F a 2) 2).toInt) ≤ 12)
    (z5 : ¬ (0 ≤ p0.toInt ∧ p0.toInt < 3 ∧ 0 ≤ p1.toInt ∧ p1.toInt < 30) → (cel (vw (G.2.1 (F (F a 3) 0))) (p0.toInt) (p1.toInt) 0) = -2000)
    (t6 : (x6.toInt = 1 ∧ (cel (vw (G.2.1 (F (F a 3) 0))) (p0.toInt) (p1.toInt) 0) ≠ -2000) ∨ (x6.toInt = 0 ∧ (cel (vw (G.2.1 (F (F a 3) 0))) (p0.toInt) (p1.toInt) 0) = -2000))
    (c9 : x6.toInt ≠ 0)
    (z25 : (cel (vw (G22.2.1 (F (F a 5) 0))) (p0.toInt) (p1.toInt) 0) = (cel (vw (G.2.1 (F (F a 3) 0))) (p0.toInt) (p1.toInt) 0))
    (c43 : p2.toInt = 2)
    (c_G39_F_F_a_11_0 : G39.2.1 (F (F a 11) 0) = G.2.1 (F (F a 11) 0))
    (c_G39_F_F_a_11_1 : G39.2.1 (F (F a 11) 1) = G.2.1 (F (F a 11) 1))
    (c_G39_F_F_a_11_2 : G39.2.1 (F (F a 11) 2) = G.2.1 (F (F a 11) 2))
    (c_G39_F_F_a_9_0 : G39.2.1 (F (F a 9) 0) = G.2.1 (F (F a 9) 0))
    (c_G39_F_F_a_9_1 : G39.2.1 (F (F a 9) 1) = G.2.1 (F (F a 9) 1))
    (c_G39_F_F_a_9_2 : G39.2.1 (F (F a 9) 2) = G.2.1 (F (F a 9) 2))
    (c_G39_F_F_a_9_3 : G39.2.1 (F (F a 9) 3) = G.2.1 (F (F a 9) 3))
    (c_G39_F_F_a_9_4 : G39.2.1 (F (F a 9) 4) = G.2.1 (F (F a 9) 4))
    (c_G39_F_F_a_9_5 : G39.2.1 (F (F a 9) 5) = G.2.1 (F (F a 9) 5))
    (r_G22_F_F_a_2_0 : G22.2.2.1 (F (F a 2) 0) = G.2.2.1 (F (F a 2) 0))
    (r_G39_F_F_a_2_1 : G39.2.2.1 (F (F a 2) 1) = G.2.2.1 (F (F a 2) 1))
    (d_G39_F_a_11_3 : G39.1 (F a 11) 3 = G.1 (F a 11) 3)
    (d_G39_F_a_9_6 : G39.1 (F a 9) 6 = G.1 (F a 9) 6) :
    BKr K G39 (G39.2.2.1 (F (F a 2) 1)) := by
  have hd : ∀ p, p ∈ [(F a 11, 3), (F a 9, 6), (F a 12, 4)] → K p.1 ≠ 9 := (List.forall_mem_cons.mpr ⟨(show K (F a 11) ≠ 9 by omega), List.forall_mem_cons.mpr ⟨(show K (F a 9) ≠ 9 by omega), List.forall_mem_cons.mpr ⟨(show K (F a 12) ≠ 9 by omega), fun _ h => by cases h⟩⟩⟩)
  rw [show G39.2.2.1 (F (F a 2) 1) = G.2.2.1 (F (F a 2) 1) by assumption]
  exact bko.fr hfr hd
theorem v_X10_wouldCut_100_14 {K : Nat → Nat} {F : Nat → Nat → Nat} (a : Nat) (G : XG) (G22 : XG) (G39 : XG) (p0 : Int32) (p1 : Int32) (x97 : Int32) (x6 : Int32) (p2 : Int32)
    (ha : K a = 12)
    (hk9999 : K (F a 11) = 3)
    (hj9999 : F (F a 11) 99 = 0)
    (hk9999a : K (F a 9) = 6)
    (hj9999a : F (F a 9) 99 = 1)
    (hk9999b : K (F a 12) = 4)
    (hj9999b : F (F a 12) 99 = 0)
    (hk9999c : K (F (F a 11) 0) = 21)
    (hj9999c : F (F (F a 11) 0) 99 = 100)
    (hk9999d : K (F (F a 11) 1) = 21)
    (hj9999d : F (F (F a 11) 1) 99 = 101)
    (hk9999e : K (F (F a 11) 2) = 24)
    (hj9999e : F (F (F a 11) 2) 99 = 4)
    (hk9999f : K (F (F a 9) 0) = 22)
    (hj9999g : F (F (F a 9) 0) 99 = 10 * 1 + 0)
    (hk9999g : K (F (F a 9) 1) = 22)
    (hj9999i : F (F (F a 9) 1) 99 = 10 * 1 + 1)
    (hk9999h : K (F (F a 9) 2) = 22)
    (hj9999k : F (F (F a 9) 2) 99 = 10 * 1 + 2)
    (hk9999i : K (F (F a 9) 3) = 22)
    (hj9999m : F (F (F a 9) 3) 99 = 10 * 1 + 3)
    (hk9999j : K (F (F a 9) 4) = 23)
    (hj9999o : F (F (F a 9) 4) 99 = 10 * 1 + 4)
    (hk9999k : K (F (F a 9) 5) = 23)
    (hj9999q : F (F (F a 9) 5) 99 = 10 * 1 + 5)
    (hk9999l : K (F a 5) = 8)
    (hj9999r : F (F a 5) 99 = 2)
    (hk9999m : K (F (F a 5) 0) = 20)
    (hj9999t : F (F (F a 5) 0) 99 = 2)
    (hk9999n : K (F (F a 5) 1) = 21)
    (hj9999v : F (F (F a 5) 1) 99 = 2)
    (hk9999o : K (F (F a 12) 0) = 24)
    (hj9999w : F (F (F a 12) 0) 99 = 0)
    (hk9999p : K (F (F a 12) 1) = 24)
    (hj9999y : F (F (F a 12) 1) 99 = 1)
    (hk9999q : K (F (F a 12) 2) = 24)
    (hj9999z25 : F (F (F a 12) 2) 99 = 2)
    (hk9999r : K (F (F a 12) 3) = 24)
    (hj9999z26 : F (F (F a 12) 3) 99 = 3)
    (hk9999s : K (F a 2) = 2)
    (hj9999z27 : F (F a 2) 99 = 0)
    (hk9999t : K (F (F a 2) 1) = 15)
    (hj9999z28 : F (F (F a 2) 1) 99 = 1)
    (hk9999u : K (F (F a 2) 0) = 15)
    (hj9999z29 : F (F (F a 2) 0) 99 = 0)
    (hk9999v : K (F a 3) = 8)
    (hj9999z30 : F (F a 3) 99 = 0)
    (hk9999w : K (F (F a 3) 0) = 20)
    (hj9999z32 : F (F (F a 3) 0) 99 = 0)
    (hk9999y : K (F (F a 3) 1) = 21)
    (hj9999z34 : F (F (F a 3) 1) 99 = 0)
    (hF22 : XFr [] [F (F a 5) 0, F (F a 5) 1] [] G G22)
    (hF39 : XFr [(F a 12, 4)] [F (F a 12) 0, F (F a 12) 1, F (F a 12) 2, F (F a 12) 3, F (F a 5) 0, F (F a 5) 1] [] G22 G39)
    (bko : BKr K G (G.2.2.1 (F (F a 2) 1)))
    (bkn : BKr K G (G.2.2.1 (F (F a 2) 0)))
    (oq22 : (vw (G22.2.1 (F (F a 5) 0))) = (vw (G.2.1 (F (F a 3) 0))))
    (oq39 : (vw (G39.2.1 (F (F a 5) 0))) = cfin (clsA G22 (G22.2.2.1 (F (F a 2) 0))) (clsT G22 (G22.2.2.1 (F (F a 2) 0))) (clsC G22 (G22.2.2.1 (F (F a 2) 0))) ([(p0.toInt, p1.toInt, 0, 0)], rfil (vw (G22.2.1 (F (F a 5) 0))) p0.toInt p1.toInt (-2000) 3))
    (oq97 : AnsR ((G.1 a 18).toInt) x97.toInt (gaL G39 (G39.2.2.1 (F (F a 2) 1)) (vw (G.2.1 (F (F a 3) 0))) (vw (G39.2.1 (F (F a 5) 0))) 0 (((G.1 (F a 2) 2).toInt)).toNat))
    (sb : 0 ≤ ((G.1 (F a 2) 2).toInt) ∧ ((G.1 (F a 2) 2).toInt) ≤ 12)
    (z5 : ¬ (0 ≤ p0.toInt ∧ p0.toInt < 3 ∧ 0 ≤ p1.toInt ∧ p1.toInt < 30) → (cel (vw (G.2.1 (F (F a 3) 0))) (p0.toInt) (p1.toInt) 0) = -2000)
    (t6 : (x6.toInt = 1 ∧ (cel (vw (G.2.1 (F (F a 3) 0))) (p0.toInt) (p1.toInt) 0) ≠ -2000) ∨ (x6.toInt = 0 ∧ (cel (vw (G.2.1 (F (F a 3) 0))) (p0.toInt) (p1.toInt) 0) = -2000))
    (c9 : x6.toInt ≠ 0)
    (z25 : (cel (vw (G22.2.1 (F (F a 5) 0))) (p0.toInt) (p1.toInt) 0) = (cel (vw (G.2.1 (F (F a 3) 0))) (p0.toInt) (p1.toInt) 0))
    (c43 : p2.toInt = 2)
    (r_G22_F_F_a_2_0 : G22.2.2.1 (F (F a 2) 0) = G.2.2.1 (F (F a 2) 0))
    (r_G39_F_F_a_2_1 : G39.2.2.1 (F (F a 2) 1) = G.2.2.1 (F (F a 2) 1)) :
    (cel (vw (G.2.1 (F (F a 3) 0))) p0.toInt p1.toInt 0 = -2000 ∧ x97.toInt = -1) ∨ (cel (vw (G.2.1 (F (F a 3) 0))) p0.toInt p1.toInt 0 ≠ -2000 ∧ ((p2.toInt = 0 ∧ ∃ b : Int → Int, RO (cfin (clsA G (G.2.2.1 (F (F a 2) 0))) (clsT G (G.2.2.1 (F (F a 2) 0))) (clsC G (G.2.2.1 (F (F a 2) 0))) ([(p0.toInt, p1.toInt, 0, 0)], rfil (vw (G.2.1 (F (F a 3) 0))) p0.toInt p1.toInt (-2000) 3)) b ∧ x97.toInt = toB (aI (G.2.1 (F (F a 3) 1))) 3 - toB b 3) ∨ (p2.toInt = 1 ∧ x97.toInt = bsI (nn1 (cfin (clsA G (G.2.2.1 (F (F a 2) 0))) (clsT G (G.2.2.1 (F (F a 2) 0))) (clsC G (G.2.2.1 (F (F a 2) 0))) ([(p0.toInt, p1.toInt, 0, 0)], rfil (vw (G.2.1 (F (F a 3) 0))) p0.toInt p1.toInt (-2000) 3)) (vw (G.2.1 (F (F a 3) 0)))) 270) ∨ (p2.toInt = 2 ∧ AnsR ((G.1 a 18).toInt) x97.toInt (gaL G (G.2.2.1 (F (F a 2) 1)) (vw (G.2.1 (F (F a 3) 0))) (cfin (clsA G (G.2.2.1 (F (F a 2) 0))) (clsT G (G.2.2.1 (F (F a 2) 0))) (clsC G (G.2.2.1 (F (F a 2) 0))) ([(p0.toInt, p1.toInt, 0, 0)], rfil (vw (G.2.1 (F (F a 3) 0))) p0.toInt p1.toInt (-2000) 3)) 0 (((G.1 (F a 2) 2).toInt)).toNat)) ∨ ((p2.toInt < 0 ∨ 2 < p2.toInt) ∧ x97.toInt = -1))) := by
  have hd0 : ∀ p, p ∈ ([] : List (Nat × Nat)) → K p.1 ≠ 9 := fun _ h => by cases h
  have hd4 : ∀ p, p ∈ [(F a 12, 4)] → K p.1 ≠ 9 := (List.forall_mem_cons.mpr ⟨(show K (F a 12) ≠ 9 by omega), fun _ h => by cases h⟩)
  have h0 : ∀ (i q : Nat), i < 12 → G.2.2.1 (F (F a 2) 0) i = some q → G22.1 q = G.1 q := fun i q hi hq => hF22.rule hd0 (bkn i q hi hq).1
  rw [r_G22_F_F_a_2_0, (cls_cg h0).1, (cls_cg h0).2.1, (cls_cg h0).2.2, oq22] at oq39
  have hc : ∀ (i q : Nat), i < ((G.1 (F a 2) 2).toInt).toNat → G.2.2.1 (F (F a 2) 1) i = some q → G39.1 q = G.1 q := fun i q hi hq => (hF39.rule hd4 (bko i q (by omega) hq).1).trans (hF22.rule hd0 (bko i q (by omega) hq).1)
  rw [oq39, r_G39_F_F_a_2_1, gaL_cg hc] at oq97
  exact Or.inr ⟨by omega, Or.inr (Or.inr (Or.inl ⟨by omega, oq97⟩))⟩
theorem v_X10_wouldCut_13_15 {K : Nat → Nat} {F : Nat → Nat → Nat} (a : Nat) (G : XG) (p0 : Int32) (p1 : Int32) (x6 : Int32) (p2 : Int32)
    (ha : K a = 12)
    (sb : 0 ≤ ((G.1 (F a 2) 2).toInt) ∧ ((G.1 (F a 2) 2).toInt) ≤ 12)
    (z5 : ¬ (0 ≤ p0.toInt ∧ p0.toInt < 3 ∧ 0 ≤ p1.toInt ∧ p1.toInt < 30) → (cel (vw (G.2.1 (F (F a 3) 0))) (p0.toInt) (p1.toInt) 0) = -2000)
    (t6 : (x6.toInt = 1 ∧ (cel (vw (G.2.1 (F (F a 3) 0))) (p0.toInt) (p1.toInt) 0) ≠ -2000) ∨ (x6.toInt = 0 ∧ (cel (vw (G.2.1 (F (F a 3) 0))) (p0.toInt) (p1.toInt) 0) = -2000))
    (c9 : ¬ (x6.toInt ≠ 0)) :
    (cel (vw (G.2.1 (F (F a 3) 0))) p0.toInt p1.toInt 0 = -2000 ∧ (-1 : Int) = -1) ∨ (cel (vw (G.2.1 (F (F a 3) 0))) p0.toInt p1.toInt 0 ≠ -2000 ∧ ((p2.toInt = 0 ∧ ∃ b : Int → Int, RO (cfin (clsA G (G.2.2.1 (F (F a 2) 0))) (clsT G (G.2.2.1 (F (F a 2) 0))) (clsC G (G.2.2.1 (F (F a 2) 0))) ([(p0.toInt, p1.toInt, 0, 0)], rfil (vw (G.2.1 (F (F a 3) 0))) p0.toInt p1.toInt (-2000) 3)) b ∧ (-1 : Int) = toB (aI (G.2.1 (F (F a 3) 1))) 3 - toB b 3) ∨ (p2.toInt = 1 ∧ (-1 : Int) = bsI (nn1 (cfin (clsA G (G.2.2.1 (F (F a 2) 0))) (clsT G (G.2.2.1 (F (F a 2) 0))) (clsC G (G.2.2.1 (F (F a 2) 0))) ([(p0.toInt, p1.toInt, 0, 0)], rfil (vw (G.2.1 (F (F a 3) 0))) p0.toInt p1.toInt (-2000) 3)) (vw (G.2.1 (F (F a 3) 0)))) 270) ∨ (p2.toInt = 2 ∧ AnsR ((G.1 a 18).toInt) (-1 : Int) (gaL G (G.2.2.1 (F (F a 2) 1)) (vw (G.2.1 (F (F a 3) 0))) (cfin (clsA G (G.2.2.1 (F (F a 2) 0))) (clsT G (G.2.2.1 (F (F a 2) 0))) (clsC G (G.2.2.1 (F (F a 2) 0))) ([(p0.toInt, p1.toInt, 0, 0)], rfil (vw (G.2.1 (F (F a 3) 0))) p0.toInt p1.toInt (-2000) 3)) 0 (((G.1 (F a 2) 2).toInt)).toNat)) ∨ ((p2.toInt < 0 ∨ 2 < p2.toInt) ∧ (-1 : Int) = -1))) := by
  exact Or.inl ⟨by omega, rfl⟩
theorem z_X10_question_1 (a0 : Int) : (¬ a0 = 0 ∧ ¬ a0 = 1) ∨ (a0 = 0) ∨ (a0 = 1) := by omega
abbrev rm_X10_question : Room := { frames := 4, cells := 0, slots := 0, locals := 91 }
set_option maxHeartbeats 4000000 in
set_option maxRecDepth 100000 in
theorem c_X10_question (l : Launch) (E : XE) (K : Nat → Nat) (F : Nat → Nat → Nat) (G : XG) (h0 : Heap) (a : Nat) (p0 : Int32) (p1 : Int32) (p2 : Int32) (ha : K a = 12) (ron : RO (vw (G.2.1 (F (F a 3) 0))) (aI (G.2.1 (F (F a 3) 1)))) (bkn : BKr K G (G.2.2.1 (F (F a 2) 0))) : Met l yX10_question (xw yX10_question cX10_question 6 (some .int)) rm_X10_question (va_Pc [.ref a, .int p0, .int p1, .int p2] (XPh E K F G h0)) (XQ E (fun v (u : Unit) => ∃ r : Int32, v = .int r ∧ ((((p0.toInt < 0 ∨ 12 ≤ p0.toInt) ∨ G.2.2.1 (F (F a 2) 0) (p0.toInt).toNat = none) ∧ r.toInt = -2147483648) ∨ (∃ q : Nat, ((0 ≤ p0.toInt ∧ p0.toInt < 12) ∧ G.2.2.1 (F (F a 2) 0) (p0.toInt).toNat = some q) ∧ r.toInt = quS (vw (G.2.1 (F (F a 3) 0))) (G.1 q 0).toInt (G.1 q 2).toInt (G.1 q 3).toInt (G.1 q 4).toInt (G.1 q 5).toInt (G.1 q 6).toInt p1.toInt p2.toInt))) (fun _ H => H = h0)) 0 0 (xA E) := by
  refine x_enter (by decide) (Nat.le_of_ble_eq_true rfl) ?_
  intro p e s m args below meth c Q S hr hlk hnm hQ hP ls hl
  obtain ⟨⟨hz, hK, hT⟩, hh⟩ := hP
  obtain ⟨hx, hb, -, -, -⟩ := id S
  have hS : va_S (xA E) s.heap s.heap [] := va_S.rf
  have hl : lv_has ls 6 [(0, .ref a), (1, .int p0), (2, .int p1), (3, .int p2)] := hl
  obtain ⟨hk9999, hj9999⟩ := fkX10_2 hT ha
  obtain ⟨hk9999a, hj9999a⟩ := fkX0_0 hT hk9999
  obtain ⟨hk9999b, hj9999b⟩ := fkX10_3 hT ha
  obtain ⟨hk9999c, hj9999c⟩ := fkX6_0 hT hk9999b
  have hj9999d : F (F (F a 3) 0) 99 = 0 := by rw [hj9999c, hj9999b]
  obtain ⟨hk9999d, hj9999e⟩ := fkX6_1 hT hk9999b
  have hj9999f : F (F (F a 3) 1) 99 = 0 := by rw [hj9999e, hj9999b]
  refine lv_aload_n hx hb dX10_question_0 rfl (lv_at hl 0 rfl) ?_
  refine gX10_2 S hK hT ha kf_X10_30 dX10_question_1 (fun _ _ => ?_)
  refine lv_iload_n hx hb dX10_question_4 rfl (lv_at hl 1 rfl) ?_
  refine x_clp (x_runV (b := (F a 2)) (As := [.int p0]) (rest := []) S (c_X0_get l E K F G s.heap (F a 2) p0 hk9999) mv_X0_get km_X10_159 rfl rfl ⟨Nat.le_of_ble_eq_true rfl, Nat.le_of_ble_eq_true rfl⟩ (rc_2 hK hT hk9999) hK (fun _ => XPh.blind) (fun U hU hW => XPh.at hK hz hS hT hU hW) rfl hl.1 (Nat.le_of_ble_eq_true rfl) dX10_question_5 ⟨Nat.le_of_ble_eq_true rfl, Nat.le_of_ble_eq_true rfl⟩) hS ?_
  rintro _ _ locs (⟨rfl, hn5⟩ | ⟨q5, rfl, hk5, ht5, hs5⟩) hS
  · refine lv_astoreN (lv' := [(4, .null), (0, .ref a), (1, .int p0), (2, .int p1), (3, .int p2)]) hx hb dX10_question_8 hl (by decide) rfl (fun ls hl => ?_)
    refine lv_aloadN hx hb dX10_question_10 (lv_at hl 0 rfl) ?_
    refine lv_ifnullN (tgt := 24) hx hb dX10_question_12 (by decide) ?_
    refine lv_ldcw (v := (-2147483648)) hx hb S.2.2.2.1 (S.2.2.2.2 _ (List.mem_cons_of_mem _ kc_X10_274)) dX10_question_24 ?_
    exact x_ri hx hb hr hlk hQ (Nat.le_of_ble_eq_true rfl) (Nat.le_of_ble_eq_true rfl) hS dX10_question_27 () ⟨_, rfl, (by rw [((by decide) : Int32.toInt (-2147483648) = (-2147483648 : Int))] <;> exact (v_X10_question_27_1 (K := K) (F := F) a G p0 p1 p2 ha hn5))⟩ hh
  · have ht5 : 0 ≤ p0.toInt ∧ p0.toInt < 12 := ht5
    refine lv_astore (lv' := [(4, .ref q5), (0, .ref a), (1, .int p0), (2, .int p1), (3, .int p2)]) hx hb dX10_question_8 hl (by decide) rfl (fun ls hl => ?_)
    refine lv_aload hx hb dX10_question_10 (lv_at hl 0 rfl) ?_
    refine lv_ifnull hx hb dX10_question_12 ?_
    refine lv_aload hx hb dX10_question_15 (lv_at hl 0 rfl) ?_
    refine lv_iload_n hx hb dX10_question_17 rfl (lv_at hl 3 rfl) ?_
    refine x_clp (x_runV (b := q5) (As := [.int p1]) (rest := []) S (c_X7_isSubject l E K F G s.heap q5 p1 hk5) mv_X7_isSubject km_X10_325 rfl rfl ⟨Nat.le_of_ble_eq_true rfl, Nat.le_of_ble_eq_true rfl⟩ (rc_9 hK hT hk5) hK (fun _ => XPh.blind) (fun U hU hW => XPh.at hK hz hS hT hU hW) rfl hl.1 (Nat.le_of_ble_eq_true rfl) dX10_question_18 ⟨Nat.le_of_ble_eq_true rfl, Nat.le_of_ble_eq_true rfl⟩) hS ?_
    rintro _ _ locs ⟨x18, rfl, b18, t18⟩ hS
    have t18 : ((((((G.1 q5 0).toInt) = 2 ∨ ((G.1 q5 0).toInt) = 4 ∨ ((G.1 q5 0).toInt) = 5) ∧ 0 ≤ p1.toInt ∧ p1.toInt < 30) ∨ (¬ (((G.1 q5 0).toInt) = 2 ∨ ((G.1 q5 0).toInt) = 4 ∨ ((G.1 q5 0).toInt) = 5) ∧ -99 ≤ p1.toInt ∧ p1.toInt ≤ 99)) ∧ x18.toInt = 1) ∨ (¬ (((((G.1 q5 0).toInt) = 2 ∨ ((G.1 q5 0).toInt) = 4 ∨ ((G.1 q5 0).toInt) = 5) ∧ 0 ≤ p1.toInt ∧ p1.toInt < 30) ∨ (¬ (((G.1 q5 0).toInt) = 2 ∨ ((G.1 q5 0).toInt) = 4 ∨ ((G.1 q5 0).toInt) = 5) ∧ -99 ≤ p1.toInt ∧ p1.toInt ≤ 99)) ∧ x18.toInt = 0) := t18
    refine xi_zne (tgt := 28) hx hb (rfl : Int32.toInt x18 = x18.toInt) dX10_question_21 (by decide) (fun c21 => ?_) (fun c21 => ?_)
    · refine lv_aload hx hb dX10_question_28 (lv_at hl 0 rfl) ?_
      refine lv_aload_n hx hb dX10_question_30 rfl (lv_at hl 1 rfl) ?_
      refine gX10_3 S hK hT ha kf_X10_37 dX10_question_31 (fun _ _ => ?_)
      refine lv_iload_n hx hb dX10_question_34 rfl (lv_at hl 3 rfl) ?_
      refine x_clp (x_runV (b := q5) (As := [.ref (F a 3), .int p1]) (rest := []) S (c_X7_state l E K F G s.heap q5 (F a 3) p1 hk5 hk9999b (v_X10_question_35_2 (F := F) a G ron) (v_X10_question_35_3 (K := K) (F := F) G a p0 q5 bkn hs5 ht5)) mv_X7_state km_X10_328 rfl rfl ⟨Nat.le_of_ble_eq_true rfl, Nat.le_of_ble_eq_true rfl⟩ (rc_9 hK hT hk5) hK (fun _ => XPh.blind) (fun U hU hW => XPh.at hK hz hS hT hU hW) rfl hl.1 (Nat.le_of_ble_eq_true rfl) dX10_question_35 ⟨Nat.le_of_ble_eq_true rfl, Nat.le_of_ble_eq_true rfl⟩) hS ?_
      rintro _ _ locs ⟨x35, rfl, t35⟩ hS
      have t35 : x35.toInt = (stt (vw (G.2.1 (F (F a 3) 0))) ((G.1 q5 0).toInt) ((G.1 q5 2).toInt) ((G.1 q5 3).toInt) ((G.1 q5 4).toInt) (p1.toInt)) := t35
      refine lv_istore (lv' := [(5, .int x35), (4, .ref q5), (0, .ref a), (1, .int p0), (2, .int p1), (3, .int p2)]) hx hb dX10_question_38 hl (by decide) rfl (fun ls hl => ?_)
      refine lv_iload_n hx hb dX10_question_40 rfl (lv_at hl 5 rfl) ?_
      rcases ((z_X10_question_1 p2.toInt) : (¬ p2.toInt = 0 ∧ ¬ p2.toInt = 1) ∨ (p2.toInt = 0) ∨ (p2.toInt = 1)) with c41 | c41 | c41
      · refine lv_lookup (off := 51) (tgt := 92) hx hb dX10_question_41 (by decide) (by first | (simp only [Op.lookupswitch.offset_cons, Op.lookupswitch.offset_nil]; (repeat' split) <;> omega) | (simp [Op.lookupswitch.offset]; (repeat' split) <;> omega) | (simp [Op.lookupswitch.offset]; omega)) (by decide) ?_
        refine lv_ldcw (v := (-2147483648)) hx hb S.2.2.2.1 (S.2.2.2.2 _ (List.mem_cons_of_mem _ kc_X10_274)) dX10_question_92 ?_
        exact x_ri hx hb hr hlk hQ (Nat.le_of_ble_eq_true rfl) (Nat.le_of_ble_eq_true rfl) hS dX10_question_95 () ⟨_, rfl, (by rw [((by decide) : Int32.toInt (-2147483648) = (-2147483648 : Int))] <;> exact (v_X10_question_95_4 (F := F) a q5 G p0 p1 p2 hs5 ht5 c41))⟩ hh
      · refine lv_lookup (off := 27) (tgt := 68) hx hb dX10_question_41 (by decide) (by rw [c41]; rfl) (by decide) ?_
        refine lv_iload hx hb dX10_question_68 (lv_at hl 0 rfl) ?_
        exact x_ri hx hb hr hlk hQ (Nat.le_of_ble_eq_true rfl) (Nat.le_of_ble_eq_true rfl) hS dX10_question_70 () ⟨_, rfl, (by rw [(t35 : Int32.toInt x35 = (stt (vw (G.2.1 (F (F a 3) 0))) ((G.1 q5 0).toInt) ((G.1 q5 2).toInt) ((G.1 q5 3).toInt) ((G.1 q5 4).toInt) (p1.toInt)))] <;> exact (v_X10_question_70_5 (K := K) (F := F) a q5 G p0 p1 x18 p2 ha hs5 ht5 t18 c21 c41))⟩ hh
      · refine lv_lookup (off := 30) (tgt := 71) hx hb dX10_question_41 (by decide) (by rw [c41]; rfl) (by decide) ?_
        refine lv_aload hx hb dX10_question_71 (lv_at hl 1 rfl) ?_
        refine lv_aload_n hx hb dX10_question_73 rfl (lv_at hl 2 rfl) ?_
        refine gX10_3 S hK hT ha kf_X10_37 dX10_question_74 (fun _ _ => ?_)
        refine lv_iload_n hx hb dX10_question_77 rfl (lv_at hl 4 rfl) ?_
        refine lv_iload hx hb dX10_question_78 (lv_at hl 0 rfl) ?_
        refine x_clp (x_runV (b := q5) (As := [.ref (F a 3), .int p1, .int x35]) (rest := []) S (c_X7_fails l E K F G s.heap q5 (F a 3) p1 x35 hk5 hk9999b (v_X10_question_80_6 (F := F) a G ron) (v_X10_question_80_7 (K := K) (F := F) G a p0 q5 bkn hs5 ht5)) mv_X7_fails km_X10_332 rfl rfl ⟨Nat.le_of_ble_eq_true rfl, Nat.le_of_ble_eq_true rfl⟩ (rc_9 hK hT hk5) hK (fun _ => XPh.blind) (fun U hU hW => XPh.at hK hz hS hT hU hW) rfl hl.1 (Nat.le_of_ble_eq_true rfl) dX10_question_80 ⟨Nat.le_of_ble_eq_true rfl, Nat.le_of_ble_eq_true rfl⟩) hS ?_
        rintro _ _ locs ⟨x80, rfl, b80, t80⟩ hS
        have t80 : x80.toInt = (flq (vw (G.2.1 (F (F a 3) 0))) ((G.1 q5 0).toInt) ((G.1 q5 2).toInt) ((G.1 q5 3).toInt) ((G.1 q5 5).toInt) ((G.1 q5 6).toInt) (p1.toInt) (stt (vw (G.2.1 (F (F a 3) 0))) ((G.1 q5 0).toInt) ((G.1 q5 2).toInt) ((G.1 q5 3).toInt) ((G.1 q5 4).toInt) (p1.toInt))) := by rw [(t35 : Int32.toInt x35 = (stt (vw (G.2.1 (F (F a 3) 0))) ((G.1 q5 0).toInt) ((G.1 q5 2).toInt) ((G.1 q5 3).toInt) ((G.1 q5 4).toInt) (p1.toInt)))] at t80; exact t80
        refine xi_zeq (tgt := 90) hx hb (rfl : Int32.toInt x80 = x80.toInt) dX10_question_83 (by decide) (fun c83 => ?_) (fun c83 => ?_)
        · refine lv_iconst (v := 0) hx hb dX10_question_90 (by decide) ?_
          exact x_ri hx hb hr hlk hQ (Nat.le_of_ble_eq_true rfl) (Nat.le_of_ble_eq_true rfl) hS dX10_question_91 () ⟨_, rfl, (v_X10_question_91_8 (K := K) (F := F) a q5 G p0 p1 x18 p2 x80 ha hs5 ht5 t18 c21 c41 t80 (xzi b80) c83)⟩ hh
        · refine lv_iconst (v := 1) hx hb dX10_question_86 (by decide) ?_
          refine lv_goto (tgt := 91) hx hb dX10_question_87 (by decide) ?_
          exact x_ri hx hb hr hlk hQ (Nat.le_of_ble_eq_true rfl) (Nat.le_of_ble_eq_true rfl) hS dX10_question_91 () ⟨_, rfl, (v_X10_question_91_9 (K := K) (F := F) a q5 G p0 p1 x18 p2 x80 ha hs5 ht5 t18 c21 c41 t80 (xzi b80) c83)⟩ hh
    · refine lv_ldcw (v := (-2147483648)) hx hb S.2.2.2.1 (S.2.2.2.2 _ (List.mem_cons_of_mem _ kc_X10_274)) dX10_question_24 ?_
      exact x_ri hx hb hr hlk hQ (Nat.le_of_ble_eq_true rfl) (Nat.le_of_ble_eq_true rfl) hS dX10_question_27 () ⟨_, rfl, (by rw [((by decide) : Int32.toInt (-2147483648) = (-2147483648 : Int))] <;> exact (v_X10_question_27_10 (K := K) (F := F) a q5 G p0 p1 x18 p2 ha hs5 ht5 t18 c21))⟩ hh

theorem z_X10_depth_1 (a0 : Int) (h0 : 0 ≤ a0 ∧ a0 ≤ 31) : ¬ (100 - a0 < ((0 : Nat) : Int)) := by omega
theorem z_X10_depth_2 (a0 : Int) (a1 : Int) (h0 : 0 ≤ a0 ∧ a0 ≤ 31) (h1 : a1 = (a0 + 1) ∨ (a0 + 1) < -2147483648 ∨ 2147483648 ≤ (a0 + 1)) : a1 = (a0 + 1) := by omega
theorem z_X10_depth_3 (a0 : Int) (h0 : 0 ≤ a0 ∧ a0 ≤ 31) (h1 : ¬ ((30 : Int) < a0)) : 0 ≤ (a0 + 1) ∧ (a0 + 1) ≤ 31 := by omega
theorem z_X10_depth_4 (a0 : Int) (a1 : Nat) (h0 : 100 - a0 < ((a1 + 1 : Nat) : Int)) : 100 - (a0 + 1) < ((a1 : Nat) : Int) := by omega
abbrev rm_X10_depth : Room := { frames := 2, cells := 0, slots := 0, locals := 44 }
set_option maxHeartbeats 4000000 in
set_option maxRecDepth 100000 in
theorem c_X10_depth (l : Launch) (E : XE) (K : Nat → Nat) (F : Nat → Nat → Nat) (G : XG) (h0 : Heap) (a : Nat) (p0 : Int32) (p1 : Int32) (ha : K a = 12) (ron : RO (vw (G.2.1 (F (F a 3) 0))) (aI (G.2.1 (F (F a 3) 1)))) : Met l yX10_depth (xw yX10_depth cX10_depth 7 (some .int)) rm_X10_depth (va_Pc [.ref a, .int p0, .int p1] (XPh E K F G h0)) (XQ E (fun v (u : Unit) => ∃ r : Int32, v = .int r ∧ ((((p0.toInt < 0 ∨ 12 ≤ p0.toInt) ∨ G.2.2.1 (F (F a 2) 0) (p0.toInt).toNat = none) ∧ r.toInt = -1) ∨ (∃ q : Nat, ((0 ≤ p0.toInt ∧ p0.toInt < 12) ∧ G.2.2.1 (F (F a 2) 0) (p0.toInt).toNat = some q) ∧ r.toInt = dpS (vw (G.2.1 (F (F a 3) 0))) (G.1 q 0).toInt (G.1 q 2).toInt (G.1 q 3).toInt p1.toInt))) (fun _ H => H = h0)) 0 0 (xA E) := by
  refine x_enter (by decide) (Nat.le_of_ble_eq_true rfl) ?_
  intro p e s m args below meth c Q S hr hlk hnm hQ hP ls hl
  obtain ⟨⟨hz, hK, hT⟩, hh⟩ := hP
  obtain ⟨hx, hb, -, -, -⟩ := id S
  have hS : va_S (xA E) s.heap s.heap [] := va_S.rf
  have hl : lv_has ls 7 [(0, .ref a), (1, .int p0), (2, .int p1)] := hl
  obtain ⟨hk9999, hj9999⟩ := fkX10_2 hT ha
  obtain ⟨hk9999a, hj9999a⟩ := fkX0_0 hT hk9999
  obtain ⟨hk9999b, hj9999b⟩ := fkX10_3 hT ha
  obtain ⟨hk9999c, hj9999c⟩ := fkX6_0 hT hk9999b
  have hj9999d : F (F (F a 3) 0) 99 = 0 := by rw [hj9999c, hj9999b]
  obtain ⟨hk9999d, hj9999e⟩ := fkX6_1 hT hk9999b
  have hj9999f : F (F (F a 3) 1) 99 = 0 := by rw [hj9999e, hj9999b]
  refine lv_aload_n hx hb dX10_depth_0 rfl (lv_at hl 0 rfl) ?_
  refine gX10_2 S hK hT ha kf_X10_30 dX10_depth_1 (fun _ _ => ?_)
  refine lv_iload_n hx hb dX10_depth_4 rfl (lv_at hl 1 rfl) ?_
  refine x_clp (x_runV (b := (F a 2)) (As := [.int p0]) (rest := []) S (c_X0_get l E K F G s.heap (F a 2) p0 hk9999) mv_X0_get km_X10_159 rfl rfl ⟨Nat.le_of_ble_eq_true rfl, Nat.le_of_ble_eq_true rfl⟩ (rc_2 hK hT hk9999) hK (fun _ => XPh.blind) (fun U hU hW => XPh.at hK hz hS hT hU hW) rfl hl.1 (Nat.le_of_ble_eq_true rfl) dX10_depth_5 ⟨Nat.le_of_ble_eq_true rfl, Nat.le_of_ble_eq_true rfl⟩) hS ?_
  rintro _ _ locs (⟨rfl, hn5⟩ | ⟨q5, rfl, hk5, ht5, hs5⟩) hS
  · refine lv_astore_nN (lv' := [(3, .null), (0, .ref a), (1, .int p0), (2, .int p1)]) hx hb dX10_depth_8 rfl hl (by decide) rfl (fun ls hl => ?_)
    refine lv_aload_nN hx hb dX10_depth_9 rfl (lv_at hl 0 rfl) ?_
    refine lv_ifnullN (tgt := 36) hx hb dX10_depth_10 (by decide) ?_
    refine lv_iconst (v := (-1)) hx hb dX10_depth_36 (by decide) ?_
    exact x_ri hx hb hr hlk hQ (Nat.le_of_ble_eq_true rfl) (Nat.le_of_ble_eq_true rfl) hS dX10_depth_37 () ⟨_, rfl, (by rw [((by decide) : Int32.toInt (-1) = (-1 : Int))] <;> exact (v_X10_depth_37_1 (K := K) (F := F) a G p0 p1 ha hn5))⟩ hh
  · have ht5 : 0 ≤ p0.toInt ∧ p0.toInt < 12 := ht5
    refine lv_astore_n (lv' := [(3, .ref q5), (0, .ref a), (1, .int p0), (2, .int p1)]) hx hb dX10_depth_8 rfl hl (by decide) rfl (fun ls hl => ?_)
    refine lv_aload_n hx hb dX10_depth_9 rfl (lv_at hl 0 rfl) ?_
    refine lv_ifnull hx hb dX10_depth_10 ?_
    refine lv_aload_n hx hb dX10_depth_13 rfl (lv_at hl 0 rfl) ?_
    refine gX7_0 S hK hT hk5 kf_X10_140 dX10_depth_14 (v := (G.1 q5 0)) rfl (?_)
    refine lv_iconst (v := 5) hx hb dX10_depth_17 (by decide) ?_
    refine xi_cne (tgt := 36) hx hb (rfl : Int32.toInt (G.1 q5 0) = ((G.1 q5 0).toInt)) ((by decide) : Int32.toInt 5 = (5 : Int)) dX10_depth_18 (by decide) (fun c18 => ?_) (fun c18 => ?_)
    · refine lv_iconst (v := (-1)) hx hb dX10_depth_36 (by decide) ?_
      exact x_ri hx hb hr hlk hQ (Nat.le_of_ble_eq_true rfl) (Nat.le_of_ble_eq_true rfl) hS dX10_depth_37 () ⟨_, rfl, (by rw [((by decide) : Int32.toInt (-1) = (-1 : Int))] <;> exact (v_X10_depth_37_2 (K := K) (F := F) a q5 G p0 p1 ha hs5 ht5 c18))⟩ hh
    · refine lv_aload_n hx hb dX10_depth_21 rfl (lv_at hl 1 rfl) ?_
      refine gX10_3 S hK hT ha kf_X10_37 dX10_depth_22 (fun _ _ => ?_)
      refine lv_aload_n hx hb dX10_depth_25 rfl (lv_at hl 0 rfl) ?_
      refine gX7_2 S hK hT hk5 kf_X10_275 dX10_depth_26 (v := (G.1 q5 2)) rfl (?_)
      refine lv_iload_n hx hb dX10_depth_29 rfl (lv_at hl 3 rfl) ?_
      refine x_clp (x_runV (b := (F a 3)) (As := [.int (G.1 q5 2), .int p1]) (rest := []) S (c_X6_has l E K F G s.heap (F a 3) (G.1 q5 2) p1 hk9999b (v_X10_depth_30_3 (F := F) a G ron)) mv_X6_has km_X10_191 rfl rfl ⟨Nat.le_of_ble_eq_true rfl, Nat.le_of_ble_eq_true rfl⟩ (rc_8 hK hT hk9999b) hK (fun _ => XPh.blind) (fun U hU hW => XPh.at hK hz hS hT hU hW) rfl hl.1 (Nat.le_of_ble_eq_true rfl) dX10_depth_30 ⟨Nat.le_of_ble_eq_true rfl, Nat.le_of_ble_eq_true rfl⟩) hS ?_
      rintro _ _ locs ⟨x30, rfl, b30, t30⟩ hS
      have t30 : (x30.toInt = 1 ∧ (cel (vw (G.2.1 (F (F a 3) 0))) ((G.1 q5 2).toInt) (p1.toInt) 0) ≠ -2000) ∨ (x30.toInt = 0 ∧ (cel (vw (G.2.1 (F (F a 3) 0))) ((G.1 q5 2).toInt) (p1.toInt) 0) = -2000) := t30
      refine xi_zne (tgt := 38) hx hb (rfl : Int32.toInt x30 = x30.toInt) dX10_depth_33 (by decide) (fun c33 => ?_) (fun c33 => ?_)
      · refine lv_iload_n hx hb dX10_depth_38 rfl (lv_at hl 3 rfl) ?_
        refine lv_istore (lv' := [(4, .int p1), (3, .ref q5), (0, .ref a), (1, .int p0), (2, .int p1)]) hx hb dX10_depth_39 hl (by decide) rfl (fun ls hl => ?_)
        refine lv_iconst (v := 0) hx hb dX10_depth_41 (by decide) ?_
        refine lv_istore (lv' := [(5, .int 0), (4, .int p1), (3, .ref q5), (0, .ref a), (1, .int p0), (2, .int p1)]) hx hb dX10_depth_42 hl (by decide) rfl (fun ls hl => ?_)
        have L44 : ∀ (N44 : Nat) (l4_44 : Int32) (l5_44 : Int32) (locs : List Loc) (ls : Array Slot), dpF (vw (G.2.1 (F (F a 3) 0))) ((G.1 q5 2).toInt) ((G.1 q5 3).toInt) 31 0 (p1.toInt) = dpF (vw (G.2.1 (F (F a 3) 0))) ((G.1 q5 2).toInt) ((G.1 q5 3).toInt) (31 - l5_44.toInt).toNat (l5_44.toInt) (l4_44.toInt) → 0 ≤ l5_44.toInt ∧ l5_44.toInt ≤ 31 → 100 - l5_44.toInt < ((N44 : Nat) : Int) → TW E K F G s.heap → va_S (xA E) s.heap s.heap locs → lv_has ls 7 [(0, .ref a), (3, .ref q5), (4, .int l4_44), (5, .int l5_44)] → W p l e rm_X10_depth s m args below meth c s.heap locs 0 0 Q (F0 m 44 ls []) := by
          intro N44
          induction N44 with
          | zero =>
            intro l4_44 l5_44 locs ls dp I44_0 hm44
            exact absurd hm44 (z_X10_depth_1 l5_44.toInt I44_0)
          | succ N44 ih44 =>
            intro l4_44 l5_44 locs ls dp I44_0 hm44 hT hS hl
            refine lv_iload hx hb dX10_depth_44 (lv_at hl 3 rfl) ?_
            refine lv_bipush (v := 30) hx hb dX10_depth_46 (by decide) ?_
            refine xi_cgt (tgt := 99) hx hb (rfl : Int32.toInt l5_44 = l5_44.toInt) ((by decide) : Int32.toInt 30 = (30 : Int)) dX10_depth_48 (by decide) (fun c48 => ?_) (fun c48 => ?_)
            · refine lv_bipush (v := (-2)) hx hb dX10_depth_99 (by decide) ?_
              exact x_ri hx hb hr hlk hQ (Nat.le_of_ble_eq_true rfl) (Nat.le_of_ble_eq_true rfl) hS dX10_depth_101 () ⟨_, rfl, (by rw [((by decide) : Int32.toInt (-2) = (-2 : Int))] <;> exact (v_X10_depth_101_4 (K := K) (F := F) a q5 G p0 p1 l5_44 l4_44 x30 N44 ha hs5 dp ht5 c18 t30 c33 I44_0 hm44 c48))⟩ hh
            · refine lv_aload_n hx hb dX10_depth_51 rfl (lv_at hl 0 rfl) ?_
              refine gX10_3 S hK hT ha kf_X10_37 dX10_depth_52 (fun _ _ => ?_)
              refine lv_aload_n hx hb dX10_depth_55 rfl (lv_at hl 1 rfl) ?_
              refine gX7_2 S hK hT hk5 kf_X10_275 dX10_depth_56 (v := (G.1 q5 2)) rfl (?_)
              refine lv_iload hx hb dX10_depth_59 (lv_at hl 2 rfl) ?_
              refine lv_aload_n hx hb dX10_depth_61 rfl (lv_at hl 1 rfl) ?_
              refine gX7_3 S hK hT hk5 kf_X10_278 dX10_depth_62 (v := (G.1 q5 3)) rfl (?_)
              refine x_clp (x_runV (b := (F a 3)) (As := [.int (G.1 q5 2), .int l4_44, .int (G.1 q5 3)]) (rest := []) S (c_X6_cell l E K F G s.heap (F a 3) (G.1 q5 2) l4_44 (G.1 q5 3) hk9999b) mv_X6_cell km_X10_265 rfl rfl ⟨Nat.le_of_ble_eq_true rfl, Nat.le_of_ble_eq_true rfl⟩ (rc_8 hK hT hk9999b) hK (fun _ => XPh.blind) (fun U hU hW => XPh.at hK hz hS hT hU hW) rfl hl.1 (Nat.le_of_ble_eq_true rfl) dX10_depth_65 ⟨Nat.le_of_ble_eq_true rfl, Nat.le_of_ble_eq_true rfl⟩) hS ?_
              rintro _ _ locs ⟨x65, rfl, t65⟩ hS
              have t65 : x65.toInt = (cel (vw (G.2.1 (F (F a 3) 0))) ((G.1 q5 2).toInt) (l4_44.toInt) ((G.1 q5 3).toInt)) := t65
              refine lv_istore (lv' := [(6, .int x65), (0, .ref a), (3, .ref q5), (4, .int l4_44), (5, .int l5_44)]) hx hb dX10_depth_68 hl (by decide) rfl (fun ls hl => ?_)
              refine lv_aload_n hx hb dX10_depth_70 rfl (lv_at hl 1 rfl) ?_
              refine gX10_3 S hK hT ha kf_X10_37 dX10_depth_71 (fun _ _ => ?_)
              refine lv_aload_n hx hb dX10_depth_74 rfl (lv_at hl 2 rfl) ?_
              refine gX7_2 S hK hT hk5 kf_X10_275 dX10_depth_75 (v := (G.1 q5 2)) rfl (?_)
              refine lv_iload hx hb dX10_depth_78 (lv_at hl 0 rfl) ?_
              refine x_clp (x_runV (b := (F a 3)) (As := [.int (G.1 q5 2), .int x65]) (rest := []) S (c_X6_has l E K F G s.heap (F a 3) (G.1 q5 2) x65 hk9999b (v_X10_depth_80_5 (F := F) a G ron)) mv_X6_has km_X10_191 rfl rfl ⟨Nat.le_of_ble_eq_true rfl, Nat.le_of_ble_eq_true rfl⟩ (rc_8 hK hT hk9999b) hK (fun _ => XPh.blind) (fun U hU hW => XPh.at hK hz hS hT hU hW) rfl hl.1 (Nat.le_of_ble_eq_true rfl) dX10_depth_80 ⟨Nat.le_of_ble_eq_true rfl, Nat.le_of_ble_eq_true rfl⟩) hS ?_
              rintro _ _ locs ⟨x80, rfl, b80, t80⟩ hS
              have t80 : (x80.toInt = 1 ∧ (cel (vw (G.2.1 (F (F a 3) 0))) ((G.1 q5 2).toInt) (cel (vw (G.2.1 (F (F a 3) 0))) ((G.1 q5 2).toInt) (l4_44.toInt) ((G.1 q5 3).toInt)) 0) ≠ -2000) ∨ (x80.toInt = 0 ∧ (cel (vw (G.2.1 (F (F a 3) 0))) ((G.1 q5 2).toInt) (cel (vw (G.2.1 (F (F a 3) 0))) ((G.1 q5 2).toInt) (l4_44.toInt) ((G.1 q5 3).toInt)) 0) = -2000) := by rw [(t65 : Int32.toInt x65 = (cel (vw (G.2.1 (F (F a 3) 0))) ((G.1 q5 2).toInt) (l4_44.toInt) ((G.1 q5 3).toInt)))] at t80; exact t80
              refine xi_zne (tgt := 89) hx hb (rfl : Int32.toInt x80 = x80.toInt) dX10_depth_83 (by decide) (fun c83 => ?_) (fun c83 => ?_)
              · refine lv_iload hx hb dX10_depth_89 (lv_at hl 0 rfl) ?_
                refine lv_istore (lv' := [(4, .int x65), (6, .int x65), (0, .ref a), (3, .ref q5), (5, .int l5_44)]) hx hb dX10_depth_91 hl (by decide) rfl (fun ls hl => ?_)
                refine xi_iinc (n := 1) (lv' := fun z9 => [(5, .int z9), (4, .int x65), (6, .int x65), (0, .ref a), (3, .ref q5)]) (k := 4) hx hb (rfl : Int32.toInt l5_44 = l5_44.toInt) (by decide) dX10_depth_93 hl rfl (by decide) (fun _ => rfl) (fun x93 ls t93 hl => ?_)
                have e93 : x93.toInt = (l5_44.toInt + 1) := (z_X10_depth_2 l5_44.toInt x93.toInt I44_0 t93)
                have hl : lv_has ls 7 [(5, .int x93), (4, .int x65), (6, .int x65), (0, .ref a), (3, .ref q5)] := hl
                refine lv_goto (tgt := 44) hx hb dX10_depth_96 (by decide) ?_
                exact ih44 x65 x93 _ _ (by rw [(e93 : Int32.toInt x93 = (l5_44.toInt + 1)), (t65 : Int32.toInt x65 = (cel (vw (G.2.1 (F (F a 3) 0))) ((G.1 q5 2).toInt) (l4_44.toInt) ((G.1 q5 3).toInt)))] <;> exact (v_X10_depth_96_6 (K := K) (F := F) a q5 G p0 p1 l5_44 l4_44 x30 N44 x80 ha hs5 dp ht5 c18 t30 c33 I44_0 hm44 c48 t80 c83)) (by rw [(e93 : Int32.toInt x93 = (l5_44.toInt + 1))] <;> exact (z_X10_depth_3 l5_44.toInt I44_0 c48)) (by rw [(e93 : Int32.toInt x93 = (l5_44.toInt + 1))] <;> exact (z_X10_depth_4 l5_44.toInt N44 hm44)) hT hS (lv_sub hl [3, 4, 1, 0] rfl)
              · refine lv_iload hx hb dX10_depth_86 (lv_at hl 4 rfl) ?_
                exact x_ri hx hb hr hlk hQ (Nat.le_of_ble_eq_true rfl) (Nat.le_of_ble_eq_true rfl) hS dX10_depth_88 () ⟨_, rfl, (v_X10_depth_88_7 (K := K) (F := F) a q5 G p0 p1 l5_44 l4_44 x30 N44 x80 ha hs5 dp ht5 c18 t30 c33 I44_0 hm44 c48 t80 c83)⟩ hh
        exact L44 4294967297 p1 0 _ _ (v_X10_depth_42_8 (F := F) a q5 G p1) (by decide) (by decide) hT hS (lv_sub hl [3, 2, 1, 0] rfl)
      · refine lv_iconst (v := (-1)) hx hb dX10_depth_36 (by decide) ?_
        exact x_ri hx hb hr hlk hQ (Nat.le_of_ble_eq_true rfl) (Nat.le_of_ble_eq_true rfl) hS dX10_depth_37 () ⟨_, rfl, (by rw [((by decide) : Int32.toInt (-1) = (-1 : Int))] <;> exact (v_X10_depth_37_9 (K := K) (F := F) a q5 G p0 x30 p1 ha hs5 ht5 c18 t30 c33))⟩ hh

theorem z_X10_changedSince_1 (a0 : Int) (a1 : Int) (h0 : 0 ≤ a0 ∧ a0 ≤ a1) (h1 : 0 ≤ a1 ∧ a1 ≤ 1080) : ¬ (5000 - a0 < ((0 : Nat) : Int)) := by omega
theorem z_X10_changedSince_2 (a0 : Int) (a1 : Int) (a2 : Int) (h0 : 0 ≤ a2 ∧ a2 ≤ 1080) (h1 : 0 ≤ a0 ∧ a0 ≤ a2) (h2 : a1 = (a0 + 1) ∨ (a0 + 1) < -2147483648 ∨ 2147483648 ≤ (a0 + 1)) : a1 = (a0 + 1) := by omega
theorem z_X10_changedSince_3 (a0 : Int) (a1 : Int) (h0 : 0 ≤ a0 ∧ a0 ≤ a1) (h1 : ¬ (a1 ≤ a0)) : 0 ≤ (a0 + 1) ∧ (a0 + 1) ≤ a1 := by omega
theorem z_X10_changedSince_4 (a0 : Int) (a1 : Int) (h0 : 0 ≤ a0 ∧ a0 ≤ a1) : 0 ≤ a0 ∧ a0 ≤ (a1 + 1) := by omega
theorem z_X10_changedSince_5 (a0 : Int) (a1 : Nat) (h0 : 5000 - a0 < ((a1 + 1 : Nat) : Int)) : 5000 - (a0 + 1) < ((a1 : Nat) : Int) := by omega
theorem z_X10_changedSince_10 (a0 : Int) (a1 : Int) (a2 : Int) (a3 : Int) (h0 : 0 ≤ a3 ∧ a3 ≤ 1080) (h1 : 0 ≤ a0 ∧ a0 ≤ a1) (h2 : ¬ (a3 ≤ a1)) (h3 : a2 = (a0 + 1) ∨ (a0 + 1) < -2147483648 ∨ 2147483648 ≤ (a0 + 1)) : a2 = (a0 + 1) := by omega
theorem z_X10_changedSince_13 (a0 : Int) (a1 : Int) (h0 : 0 ≤ a0 ∧ a0 ≤ a1) : 0 ≤ (a0 + 1) ∧ (a0 + 1) ≤ (a1 + 1) := by omega
theorem z_X10_changedSince_15 (a0 : Int) (h0 : 0 ≤ a0 ∧ a0 ≤ 1080) : 0 ≤ (0 : Int) ∧ (0 : Int) ≤ a0 := by omega
abbrev rm_X10_changedSince : Room := { frames := 3, cells := 0, slots := 0, locals := 72 }
set_option maxHeartbeats 4000000 in
set_option maxRecDepth 100000 in
theorem c_X10_changedSince (l : Launch) (E : XE) (K : Nat → Nat) (F : Nat → Nat → Nat) (G : XG) (h0 : Heap) (a : Nat) (p0 : Nat) (ha : K a = 12) (hp0 : K p0 = 8) (w8 : 0 ≤ ((G.1 (F a 8) 6).toInt) ∧ ((G.1 (F a 8) 6).toInt) ≤ 1080) (rox : RO (vw (G.2.1 (F p0 0))) (aI (G.2.1 (F p0 1)))) (bkn : BKr K G (G.2.2.1 (F (F a 2) 0))) : Met l yX10_changedSince (xw yX10_changedSince cX10_changedSince 5 (some .int)) rm_X10_changedSince (va_Pc [.ref a, .ref p0] (XPh E K F G h0)) (XQ E (fun v (u : Unit) => ∃ r : Int32, v = .int r ∧ (r.toInt = smQ (chQ G (G.2.2.1 (F (F a 2) 0)) (vw (G.2.1 (F p0 0)))) (qL G F (F a 8)))) (fun _ H => H = h0)) 0 0 (xA E) := by
  refine x_enter (by decide) (Nat.le_of_ble_eq_true rfl) ?_
  intro p e s m args below meth c Q S hr hlk hnm hQ hP ls hl
  obtain ⟨⟨hz, hK, hT⟩, hh⟩ := hP
  obtain ⟨hx, hb, -, -, -⟩ := id S
  have hS : va_S (xA E) s.heap s.heap [] := va_S.rf
  have hl : lv_has ls 5 [(0, .ref a), (1, .ref p0)] := hl
  obtain ⟨hk9999, hj9999⟩ := fkX10_2 hT ha
  obtain ⟨hk9999a, hj9999a⟩ := fkX0_0 hT hk9999
  obtain ⟨hk9999b, hj9999b⟩ := fkX10_8 hT ha
  obtain ⟨hk9999c, hj9999c⟩ := fkX6_0 hT hp0
  obtain ⟨hk9999d, hj9999d⟩ := fkX6_1 hT hp0
  refine lv_iconst (v := 0) hx hb dX10_changedSince_0 (by decide) ?_
  refine lv_istore_n (lv' := [(2, .int 0), (0, .ref a), (1, .ref p0)]) hx hb dX10_changedSince_1 rfl hl (by decide) rfl (fun ls hl => ?_)
  refine lv_iconst (v := 0) hx hb dX10_changedSince_2 (by decide) ?_
  refine lv_istore_n (lv' := [(3, .int 0), (2, .int 0), (0, .ref a), (1, .ref p0)]) hx hb dX10_changedSince_3 rfl hl (by decide) rfl (fun ls hl => ?_)
  have L4 : ∀ (N4 : Nat) (l2_4 : Int32) (l3_4 : Int32) (locs : List Loc) (ls : Array Slot), l2_4.toInt = smS (fun j => chQ G (G.2.2.1 (F (F a 2) 0)) (vw (G.2.1 (F p0 0))) (qtI G F (F a 8) j)) 0 l3_4.toInt → 0 ≤ l3_4.toInt ∧ l3_4.toInt ≤ ((G.1 (F a 8) 6).toInt) → 0 ≤ l2_4.toInt ∧ l2_4.toInt ≤ l3_4.toInt → 5000 - l3_4.toInt < ((N4 : Nat) : Int) → TW E K F G s.heap → va_S (xA E) s.heap s.heap locs → lv_has ls 5 [(0, .ref a), (1, .ref p0), (2, .int l2_4), (3, .int l3_4)] → W p l e rm_X10_changedSince s m args below meth c s.heap locs 0 0 Q (F0 m 4 ls []) := by
    intro N4
    induction N4 with
    | zero =>
      intro l2_4 l3_4 locs ls pc I4_0 I4_1 hm4
      exact absurd hm4 (z_X10_changedSince_1 l3_4.toInt ((G.1 (F a 8) 6).toInt) I4_0 w8)
    | succ N4 ih4 =>
      intro l2_4 l3_4 locs ls pc I4_0 I4_1 hm4 hT hS hl
      refine lv_iload_n hx hb dX10_changedSince_4 rfl (lv_at hl 3 rfl) ?_
      refine lv_aload_n hx hb dX10_changedSince_5 rfl (lv_at hl 0 rfl) ?_
      refine gX10_8 S hK hT ha kf_X10_57 dX10_changedSince_6 (fun _ _ => ?_)
      refine x_clp (x_runV (b := (F a 8)) (As := []) (rest := [.int l3_4]) S (c_X4_size l E K F G s.heap (F a 8) hk9999b) mv_X4_size km_X10_232 rfl rfl ⟨Nat.le_of_ble_eq_true rfl, Nat.le_of_ble_eq_true rfl⟩ (rc_6 hK hT hk9999b) hK (fun _ => XPh.blind) (fun U hU hW => XPh.at hK hz hS hT hU hW) rfl hl.1 (Nat.le_of_ble_eq_true rfl) dX10_changedSince_9 ⟨Nat.le_of_ble_eq_true rfl, Nat.le_of_ble_eq_true rfl⟩) hS ?_
      rintro _ _ locs ⟨x9, rfl, t9⟩ hS
      have t9 : x9.toInt = ((G.1 (F a 8) 6).toInt) := t9
      refine xi_cge (tgt := 71) hx hb (rfl : Int32.toInt l3_4 = l3_4.toInt) (t9 : Int32.toInt x9 = ((G.1 (F a 8) 6).toInt)) dX10_changedSince_12 (by decide) (fun c12 => ?_) (fun c12 => ?_)
      · refine lv_iload_n hx hb dX10_changedSince_71 rfl (lv_at hl 2 rfl) ?_
        exact x_ri hx hb hr hlk hQ (Nat.le_of_ble_eq_true rfl) (Nat.le_of_ble_eq_true rfl) hS dX10_changedSince_72 () ⟨_, rfl, (v_X10_changedSince_72_1 (K := K) (F := F) a p0 G l2_4 l3_4 N4 ha hp0 pc w8 I4_0 I4_1 hm4 c12)⟩ hh
      · refine lv_aload_n hx hb dX10_changedSince_15 rfl (lv_at hl 0 rfl) ?_
        refine gX10_2 S hK hT ha kf_X10_30 dX10_changedSince_16 (fun _ _ => ?_)
        refine lv_aload_n hx hb dX10_changedSince_19 rfl (lv_at hl 0 rfl) ?_
        refine gX10_8 S hK hT ha kf_X10_57 dX10_changedSince_20 (fun _ _ => ?_)
        refine lv_iload_n hx hb dX10_changedSince_23 rfl (lv_at hl 3 rfl) ?_
        refine x_clp (x_runV (b := (F a 8)) (As := [.int l3_4]) (rest := [.ref (F a 2)]) S (c_X4_number l E K F G s.heap (F a 8) l3_4 hk9999b) mv_X4_number km_X10_301 rfl rfl ⟨Nat.le_of_ble_eq_true rfl, Nat.le_of_ble_eq_true rfl⟩ (rc_6 hK hT hk9999b) hK (fun _ => XPh.blind) (fun U hU hW => XPh.at hK hz hS hT hU hW) rfl hl.1 (Nat.le_of_ble_eq_true rfl) dX10_changedSince_24 ⟨Nat.le_of_ble_eq_true rfl, Nat.le_of_ble_eq_true rfl⟩) hS ?_
        rintro _ _ locs ⟨x24, rfl, t24⟩ hS
        obtain ⟨hk24, hj24⟩ := fkX4_0 hT hk9999b
        have hj24a : F (F (F a 8) 0) 99 = 10 * 0 + 0 := by rw [hj24, hj9999b]
        have t24 : ((0 ≤ l3_4.toInt ∧ l3_4.toInt < ((G.1 (F a 8) 6).toInt) ∧ l3_4.toInt < 1080) ∧ x24.toInt = (aI (G.2.1 (F (F a 8) 0)) (l3_4.toInt))) ∨ (¬ (0 ≤ l3_4.toInt ∧ l3_4.toInt < ((G.1 (F a 8) 6).toInt) ∧ l3_4.toInt < 1080) ∧ x24.toInt = -1) := t24
        refine x_clp (x_runV (b := (F a 2)) (As := [.int x24]) (rest := []) S (c_X0_get l E K F G s.heap (F a 2) x24 hk9999) mv_X0_get km_X10_159 rfl rfl ⟨Nat.le_of_ble_eq_true rfl, Nat.le_of_ble_eq_true rfl⟩ (rc_2 hK hT hk9999) hK (fun _ => XPh.blind) (fun U hU hW => XPh.at hK hz hS hT hU hW) rfl hl.1 (Nat.le_of_ble_eq_true rfl) dX10_changedSince_27 ⟨Nat.le_of_ble_eq_true rfl, Nat.le_of_ble_eq_true rfl⟩) hS ?_
        rintro _ _ locs (⟨rfl, hn27⟩ | ⟨q27, rfl, hk27, ht27, hs27⟩) hS
        · refine lv_astoreN (lv' := [(4, .null), (0, .ref a), (1, .ref p0), (2, .int l2_4), (3, .int l3_4)]) hx hb dX10_changedSince_30 hl (by decide) rfl (fun ls hl => ?_)
          refine lv_aloadN hx hb dX10_changedSince_32 (lv_at hl 0 rfl) ?_
          refine lv_ifnullN (tgt := 65) hx hb dX10_changedSince_34 (by decide) ?_
          refine xi_iinc (n := 1) (lv' := fun z9 => [(3, .int z9), (4, .null), (0, .ref a), (1, .ref p0), (2, .int l2_4)]) (k := 4) hx hb (rfl : Int32.toInt l3_4 = l3_4.toInt) (by decide) dX10_changedSince_65 hl rfl (by decide) (fun _ => rfl) (fun x65 ls t65 hl => ?_)
          have e65 : x65.toInt = (l3_4.toInt + 1) := (z_X10_changedSince_2 l3_4.toInt x65.toInt ((G.1 (F a 8) 6).toInt) w8 I4_0 t65)
          have hl : lv_has ls 5 [(3, .int x65), (4, .null), (0, .ref a), (1, .ref p0), (2, .int l2_4)] := hl
          refine lv_goto (tgt := 4) hx hb dX10_changedSince_68 (by decide) ?_
          exact ih4 l2_4 x65 _ _ (by rw [(e65 : Int32.toInt x65 = (l3_4.toInt + 1))] <;> exact (v_X10_changedSince_68_2 (K := K) (F := F) a p0 G l2_4 l3_4 x24 N4 ha hp0 pc hn27 w8 I4_0 I4_1 hm4 c12 t24)) (by rw [(e65 : Int32.toInt x65 = (l3_4.toInt + 1))] <;> exact (z_X10_changedSince_3 l3_4.toInt ((G.1 (F a 8) 6).toInt) I4_0 c12)) (by rw [(e65 : Int32.toInt x65 = (l3_4.toInt + 1))] <;> exact (z_X10_changedSince_4 l2_4.toInt l3_4.toInt I4_1)) (by rw [(e65 : Int32.toInt x65 = (l3_4.toInt + 1))] <;> exact (z_X10_changedSince_5 l3_4.toInt N4 hm4)) hT hS (lv_sub hl [2, 3, 4, 0] rfl)
        · have ht27 : 0 ≤ x24.toInt ∧ x24.toInt < 12 := ht27
          refine lv_astore (lv' := [(4, .ref q27), (0, .ref a), (1, .ref p0), (2, .int l2_4), (3, .int l3_4)]) hx hb dX10_changedSince_30 hl (by decide) rfl (fun ls hl => ?_)
          refine lv_aload hx hb dX10_changedSince_32 (lv_at hl 0 rfl) ?_
          refine lv_ifnull hx hb dX10_changedSince_34 ?_
          refine lv_aload hx hb dX10_changedSince_37 (lv_at hl 0 rfl) ?_
          refine lv_aload_n hx hb dX10_changedSince_39 rfl (lv_at hl 2 rfl) ?_
          refine lv_aload_n hx hb dX10_changedSince_40 rfl (lv_at hl 1 rfl) ?_
          refine gX10_8 S hK hT ha kf_X10_57 dX10_changedSince_41 (fun _ _ => ?_)
          refine lv_iload_n hx hb dX10_changedSince_44 rfl (lv_at hl 4 rfl) ?_
          refine x_clp (x_runV (b := (F a 8)) (As := [.int l3_4]) (rest := [.ref p0, .ref q27]) S (c_X4_subject l E K F G s.heap (F a 8) l3_4 hk9999b) mv_X4_subject km_X10_147 rfl rfl ⟨Nat.le_of_ble_eq_true rfl, Nat.le_of_ble_eq_true rfl⟩ (rc_6 hK hT hk9999b) hK (fun _ => XPh.blind) (fun U hU hW => XPh.at hK hz hS hT hU hW) rfl hl.1 (Nat.le_of_ble_eq_true rfl) dX10_changedSince_45 ⟨Nat.le_of_ble_eq_true rfl, Nat.le_of_ble_eq_true rfl⟩) hS ?_
          rintro _ _ locs ⟨x45, rfl, t45⟩ hS
          obtain ⟨hk45, hj45⟩ := fkX4_1 hT hk9999b
          have hj45a : F (F (F a 8) 1) 99 = 10 * 0 + 1 := by rw [hj45, hj9999b]
          have t45 : ((0 ≤ l3_4.toInt ∧ l3_4.toInt < ((G.1 (F a 8) 6).toInt) ∧ l3_4.toInt < 1080) ∧ x45.toInt = (aI (G.2.1 (F (F a 8) 1)) (l3_4.toInt))) ∨ (¬ (0 ≤ l3_4.toInt ∧ l3_4.toInt < ((G.1 (F a 8) 6).toInt) ∧ l3_4.toInt < 1080) ∧ x45.toInt = -1) := t45
          refine x_clp (x_runV (b := q27) (As := [.ref p0, .int x45]) (rest := []) S (c_X7_state l E K F G s.heap q27 p0 x45 hk27 hp0 (v_X10_changedSince_48_3 (F := F) p0 G rox) (v_X10_changedSince_48_4 (K := K) (F := F) G a x24 q27 l3_4 bkn hs27 t24 ht27)) mv_X7_state km_X10_328 rfl rfl ⟨Nat.le_of_ble_eq_true rfl, Nat.le_of_ble_eq_true rfl⟩ (rc_9 hK hT hk27) hK (fun _ => XPh.blind) (fun U hU hW => XPh.at hK hz hS hT hU hW) rfl hl.1 (Nat.le_of_ble_eq_true rfl) dX10_changedSince_48 ⟨Nat.le_of_ble_eq_true rfl, Nat.le_of_ble_eq_true rfl⟩) hS ?_
          rintro _ _ locs ⟨x48, rfl, t48⟩ hS
          have t48 : x48.toInt = (stt (vw (G.2.1 (F p0 0))) ((G.1 q27 0).toInt) ((G.1 q27 2).toInt) ((G.1 q27 3).toInt) ((G.1 q27 4).toInt) (x45.toInt)) := t48
          refine lv_aload_n hx hb dX10_changedSince_51 rfl (lv_at hl 1 rfl) ?_
          refine gX10_8 S hK hT ha kf_X10_57 dX10_changedSince_52 (fun _ _ => ?_)
          refine lv_iload_n hx hb dX10_changedSince_55 rfl (lv_at hl 4 rfl) ?_
          refine x_clp (x_runV (b := (F a 8)) (As := [.int l3_4]) (rest := [.int x48]) S (c_X4_after l E K F G s.heap (F a 8) l3_4 hk9999b) mv_X4_after km_X10_306 rfl rfl ⟨Nat.le_of_ble_eq_true rfl, Nat.le_of_ble_eq_true rfl⟩ (rc_6 hK hT hk9999b) hK (fun _ => XPh.blind) (fun U hU hW => XPh.at hK hz hS hT hU hW) rfl hl.1 (Nat.le_of_ble_eq_true rfl) dX10_changedSince_56 ⟨Nat.le_of_ble_eq_true rfl, Nat.le_of_ble_eq_true rfl⟩) hS ?_
          rintro _ _ locs ⟨x56, rfl, t56⟩ hS
          obtain ⟨hk56, hj56⟩ := fkX4_3 hT hk9999b
          have hj56a : F (F (F a 8) 3) 99 = 10 * 0 + 3 := by rw [hj56, hj9999b]
          have t56 : ((0 ≤ l3_4.toInt ∧ l3_4.toInt < ((G.1 (F a 8) 6).toInt) ∧ l3_4.toInt < 1080) ∧ x56.toInt = (aI (G.2.1 (F (F a 8) 3)) (l3_4.toInt))) ∨ (¬ (0 ≤ l3_4.toInt ∧ l3_4.toInt < ((G.1 (F a 8) 6).toInt) ∧ l3_4.toInt < 1080) ∧ x56.toInt = -2000) := t56
          refine xi_ceq (tgt := 65) hx hb (t48 : Int32.toInt x48 = (stt (vw (G.2.1 (F p0 0))) ((G.1 q27 0).toInt) ((G.1 q27 2).toInt) ((G.1 q27 3).toInt) ((G.1 q27 4).toInt) (x45.toInt))) (rfl : Int32.toInt x56 = x56.toInt) dX10_changedSince_59 (by decide) (fun c59 => ?_) (fun c59 => ?_)
          · refine xi_iinc (n := 1) (lv' := fun z9 => [(3, .int z9), (4, .ref q27), (0, .ref a), (1, .ref p0), (2, .int l2_4)]) (k := 4) hx hb (rfl : Int32.toInt l3_4 = l3_4.toInt) (by decide) dX10_changedSince_65 hl rfl (by decide) (fun _ => rfl) (fun x65 ls t65 hl => ?_)
            have e65 : x65.toInt = (l3_4.toInt + 1) := (z_X10_changedSince_2 l3_4.toInt x65.toInt ((G.1 (F a 8) 6).toInt) w8 I4_0 t65)
            have hl : lv_has ls 5 [(3, .int x65), (4, .ref q27), (0, .ref a), (1, .ref p0), (2, .int l2_4)] := hl
            refine lv_goto (tgt := 4) hx hb dX10_changedSince_68 (by decide) ?_
            exact ih4 l2_4 x65 _ _ (by rw [(e65 : Int32.toInt x65 = (l3_4.toInt + 1))] <;> exact (v_X10_changedSince_68_5 (K := K) (F := F) a p0 q27 G l2_4 l3_4 x24 x48 x45 N4 x56 ha hp0 pc hs27 t48 w8 I4_0 I4_1 hm4 c12 t24 ht27 t45 t56 c59)) (by rw [(e65 : Int32.toInt x65 = (l3_4.toInt + 1))] <;> exact (z_X10_changedSince_3 l3_4.toInt ((G.1 (F a 8) 6).toInt) I4_0 c12)) (by rw [(e65 : Int32.toInt x65 = (l3_4.toInt + 1))] <;> exact (z_X10_changedSince_4 l2_4.toInt l3_4.toInt I4_1)) (by rw [(e65 : Int32.toInt x65 = (l3_4.toInt + 1))] <;> exact (z_X10_changedSince_5 l3_4.toInt N4 hm4)) hT hS (lv_sub hl [2, 3, 4, 0] rfl)
          · refine xi_iinc (n := 1) (lv' := fun z9 => [(2, .int z9), (4, .ref q27), (0, .ref a), (1, .ref p0), (3, .int l3_4)]) (k := 3) hx hb (rfl : Int32.toInt l2_4 = l2_4.toInt) (by decide) dX10_changedSince_62 hl rfl (by decide) (fun _ => rfl) (fun x62 ls t62 hl => ?_)
            have e62 : x62.toInt = (l2_4.toInt + 1) := (z_X10_changedSince_10 l2_4.toInt l3_4.toInt x62.toInt ((G.1 (F a 8) 6).toInt) w8 I4_1 c12 t62)
            have hl : lv_has ls 5 [(2, .int x62), (4, .ref q27), (0, .ref a), (1, .ref p0), (3, .int l3_4)] := hl
            refine xi_iinc (n := 1) (lv' := fun z9 => [(3, .int z9), (2, .int x62), (4, .ref q27), (0, .ref a), (1, .ref p0)]) (k := 4) hx hb (rfl : Int32.toInt l3_4 = l3_4.toInt) (by decide) dX10_changedSince_65 hl rfl (by decide) (fun _ => rfl) (fun x65 ls t65 hl => ?_)
            have e65 : x65.toInt = (l3_4.toInt + 1) := (z_X10_changedSince_2 l3_4.toInt x65.toInt ((G.1 (F a 8) 6).toInt) w8 I4_0 t65)
            have hl : lv_has ls 5 [(3, .int x65), (2, .int x62), (4, .ref q27), (0, .ref a), (1, .ref p0)] := hl
            refine lv_goto (tgt := 4) hx hb dX10_changedSince_68 (by decide) ?_
            exact ih4 x62 x65 _ _ (by rw [(e62 : Int32.toInt x62 = (l2_4.toInt + 1)), (e65 : Int32.toInt x65 = (l3_4.toInt + 1))] <;> exact (v_X10_changedSince_68_6 (K := K) (F := F) a p0 q27 G l2_4 l3_4 x24 x48 x45 N4 x56 ha hp0 pc hs27 t48 w8 I4_0 I4_1 hm4 c12 t24 ht27 t45 t56 c59)) (by rw [(e65 : Int32.toInt x65 = (l3_4.toInt + 1))] <;> exact (z_X10_changedSince_3 l3_4.toInt ((G.1 (F a 8) 6).toInt) I4_0 c12)) (by rw [(e62 : Int32.toInt x62 = (l2_4.toInt + 1)), (e65 : Int32.toInt x65 = (l3_4.toInt + 1))] <;> exact (z_X10_changedSince_13 l2_4.toInt l3_4.toInt I4_1)) (by rw [(e65 : Int32.toInt x65 = (l3_4.toInt + 1))] <;> exact (z_X10_changedSince_5 l3_4.toInt N4 hm4)) hT hS (lv_sub hl [3, 4, 1, 0] rfl)
  exact L4 4294967297 0 0 _ _ (v_X10_changedSince_3_7 (F := F) a p0 G) (z_X10_changedSince_15 ((G.1 (F a 8) 6).toInt) w8) (by decide) (by decide) hT hS (lv_sub hl [2, 3, 1, 0] rfl)

abbrev rm_X10_settledSince : Room := { frames := 6, cells := 0, slots := 0, locals := 149 }
set_option maxHeartbeats 4000000 in
set_option maxRecDepth 100000 in
theorem c_X10_settledSince (l : Launch) (E : XE) (K : Nat → Nat) (F : Nat → Nat → Nat) (G : XG) (a : Nat) (p0 : Nat) (ha : K a = 12) (hp0 : K p0 = 8) (sb : 0 ≤ ((G.1 (F a 2) 2).toInt) ∧ ((G.1 (F a 2) 2).toInt) ≤ 12) (rox : RO (vw (G.2.1 (F p0 0))) (aI (G.2.1 (F p0 1)))) (j0 : F p0 99 < 12) (rob : RO (vw (G.2.1 (F (F a 4) 0))) (aI (G.2.1 (F (F a 4) 1)))) (ron : RO (vw (G.2.1 (F (F a 3) 0))) (aI (G.2.1 (F (F a 3) 1)))) (bko : BKr K G (G.2.2.1 (F (F a 2) 1))) (bkn : BKr K G (G.2.2.1 (F (F a 2) 0))) : Met l yX10_settledSince (xw yX10_settledSince cX10_settledSince 5 (some .int)) rm_X10_settledSince (va_Pc [.ref a, .ref p0] (XP E K F G)) (XQ E (fun v (u : XG) => ∃ r : Int32, v = .int r ∧ XFr [(F a 11, 3), (F a 9, 6)] [F (F a 11) 0, F (F a 11) 1, F (F a 11) 2, F (F a 9) 0, F (F a 9) 1, F (F a 9) 2, F (F a 9) 3, F (F a 9) 4, F (F a 9) 5] [] G u ∧ (r.toInt = smQ (seQ G (G.2.2.1 (F (F a 2) 0)) (vw (G.2.1 (F (F a 3) 0)))) (gaL G (G.2.2.1 (F (F a 2) 1)) (vw (G.2.1 (F (F a 4) 0))) (vw (G.2.1 (F p0 0))) 1 (((G.1 (F a 2) 2).toInt)).toNat))) (fun u H => TW E K F u H)) 0 0 (xA E) := by
  refine x_enter (by decide) (Nat.le_of_ble_eq_true rfl) ?_
  intro p e s m args below meth c Q S hr hlk hnm hQ hP ls hl
  obtain ⟨hz, hK, hT⟩ := hP
  obtain ⟨hx, hb, -, -, -⟩ := id S
  obtain ⟨H, hT, hS, hgo⟩ : ∃ H : Heap, TW E K F G H ∧ va_S (xA E) s.heap H [] ∧ H = s.heap := ⟨_, hT, va_S.rf, rfl⟩
  rw [← hgo]
  have hl : lv_has ls 5 [(0, .ref a), (1, .ref p0)] := hl
  obtain ⟨hk9999, hj9999⟩ := fkX10_11 hT ha
  obtain ⟨hk9999a, hj9999a⟩ := fkX10_9 hT ha
  obtain ⟨hk9999b, hj9999b⟩ := fkX1_0 hT hk9999
  obtain ⟨hk9999c, hj9999c⟩ := fkX1_1 hT hk9999
  obtain ⟨hk9999d, hj9999d⟩ := fkX1_2 hT hk9999
  obtain ⟨hk9999e, hj9999e⟩ := fkX4_0 hT hk9999a
  have hj9999f : F (F (F a 9) 0) 99 = 10 * 1 + 0 := by rw [hj9999e, hj9999a]
  obtain ⟨hk9999f, hj9999g⟩ := fkX4_1 hT hk9999a
  have hj9999h : F (F (F a 9) 1) 99 = 10 * 1 + 1 := by rw [hj9999g, hj9999a]
  obtain ⟨hk9999g, hj9999i⟩ := fkX4_2 hT hk9999a
  have hj9999j : F (F (F a 9) 2) 99 = 10 * 1 + 2 := by rw [hj9999i, hj9999a]
  obtain ⟨hk9999h, hj9999k⟩ := fkX4_3 hT hk9999a
  have hj9999l : F (F (F a 9) 3) 99 = 10 * 1 + 3 := by rw [hj9999k, hj9999a]
  obtain ⟨hk9999i, hj9999m⟩ := fkX4_4 hT hk9999a
  have hj9999n : F (F (F a 9) 4) 99 = 10 * 1 + 4 := by rw [hj9999m, hj9999a]
  obtain ⟨hk9999j, hj9999o⟩ := fkX4_5 hT hk9999a
  have hj9999p : F (F (F a 9) 5) 99 = 10 * 1 + 5 := by rw [hj9999o, hj9999a]
  obtain ⟨hk9999k, hj9999q⟩ := fkX10_2 hT ha
  obtain ⟨hk9999l, hj9999r⟩ := fkX0_0 hT hk9999k
  obtain ⟨hk9999m, hj9999s⟩ := fkX0_1 hT hk9999k
  obtain ⟨hk9999n, hj9999t⟩ := fkX6_0 hT hp0
  obtain ⟨hk9999o, hj9999u⟩ := fkX6_1 hT hp0
  obtain ⟨hk9999p, hj9999v⟩ := fkX10_4 hT ha
  obtain ⟨hk9999q, hj9999w⟩ := fkX6_0 hT hk9999p
  have hj9999y : F (F (F a 4) 0) 99 = 1 := by rw [hj9999w, hj9999v]
  obtain ⟨hk9999r, hj9999z25⟩ := fkX6_1 hT hk9999p
  have hj9999z26 : F (F (F a 4) 1) 99 = 1 := by rw [hj9999z25, hj9999v]
  obtain ⟨hk9999s, hj9999z27⟩ := fkX10_3 hT ha
  obtain ⟨hk9999t, hj9999z28⟩ := fkX6_0 hT hk9999s
  have hj9999z29 : F (F (F a 3) 0) 99 = 0 := by rw [hj9999z28, hj9999z27]
  obtain ⟨hk9999u, hj9999z30⟩ := fkX6_1 hT hk9999s
  have hj9999z31 : F (F (F a 3) 1) 99 = 0 := by rw [hj9999z30, hj9999z27]
  refine lv_aload_n hx hb dX10_settledSince_0 rfl (lv_at hl 0 rfl) ?_
  refine lv_aload_n hx hb dX10_settledSince_1 rfl (lv_at hl 0 rfl) ?_
  refine gX10_9 S hK hT ha kf_X10_61 dX10_settledSince_2 (fun _ _ => ?_)
  refine lv_aload_n hx hb dX10_settledSince_5 rfl (lv_at hl 0 rfl) ?_
  refine gX10_4 S hK hT ha kf_X10_41 dX10_settledSince_6 (fun _ _ => ?_)
  refine lv_aload_n hx hb dX10_settledSince_9 rfl (lv_at hl 1 rfl) ?_
  refine lv_iconst (v := 1) hx hb dX10_settledSince_10 (by decide) ?_
  refine x_cv0 (x_runV (b := a) (As := [.ref (F a 9), .ref (F a 4), .ref p0, .int 1]) (rest := []) S (c_X10_gather l E K F G a (F a 9) (F a 4) p0 1 ha hk9999a hk9999p hp0 (sb) (v_X10_settledSince_11_1 (F := F) a G rob) (v_X10_settledSince_11_2 (F := F) p0 G rox) (v_X10_settledSince_11_3 (K := K) (F := F) G a bko) (v_X10_settledSince_11_4 (K := K) (F := F) a p0 G ha hp0 hk9999 hj9999 hk9999a hj9999a hk9999b hj9999b hk9999c hj9999c hk9999d hj9999d hk9999e hj9999f hk9999f hj9999h hk9999g hj9999j hk9999h hj9999l hk9999i hj9999n hk9999j hj9999p hk9999k hj9999q hk9999l hj9999r hk9999m hj9999s hk9999n hj9999t hk9999o hj9999u hk9999p hj9999v hk9999q hj9999y hk9999r hj9999z26 hk9999s hj9999z27 hk9999t hj9999z29 hk9999u hj9999z31 rox j0 rob ron bko bkn sb) (v_X10_settledSince_11_5 (F := F) p0 j0)) mv_X10_gather km_X10_240 rfl rfl ⟨Nat.le_of_ble_eq_true rfl, Nat.le_of_ble_eq_true rfl⟩ (rc_12 hK hT ha) hK (fun _ => XP.blind) (fun U hU hW => XP.at hK hz hS hT hU hW) rfl hl.1 (Nat.le_of_ble_eq_true rfl) dX10_settledSince_11 ⟨Nat.le_of_ble_eq_true rfl, Nat.le_of_ble_eq_true rfl⟩) hS ?_
  rintro G11 H locs ⟨hF11, t11, oq11⟩ hT hS
  have t11 : 0 ≤ ((G11.1 (F a 9) 6).toInt) ∧ ((G11.1 (F a 9) 6).toInt) ≤ 1080 := t11
  refine lv_iconst (v := 0) hx hb dX10_settledSince_14 (by decide) ?_
  refine lv_istore_n (lv' := [(2, .int 0), (0, .ref a), (1, .ref p0)]) hx hb dX10_settledSince_15 rfl hl (by decide) rfl (fun ls hl => ?_)
  refine lv_iconst (v := 0) hx hb dX10_settledSince_16 (by decide) ?_
  refine lv_istore_n (lv' := [(3, .int 0), (2, .int 0), (0, .ref a), (1, .ref p0)]) hx hb dX10_settledSince_17 rfl hl (by decide) rfl (fun ls hl => ?_)
  have L18 : ∀ (N18 : Nat) (l2_18 : Int32) (l3_18 : Int32) (H : Heap) (locs : List Loc) (ls : Array Slot), l2_18.toInt = smS (fun j => seQ G (G.2.2.1 (F (F a 2) 0)) (vw (G.2.1 (F (F a 3) 0))) (qtI G11 F (F a 9) j)) 0 l3_18.toInt → 0 ≤ l3_18.toInt ∧ l3_18.toInt ≤ ((G11.1 (F a 9) 6).toInt) → 0 ≤ l2_18.toInt ∧ l2_18.toInt ≤ l3_18.toInt → 5000 - l3_18.toInt < ((N18 : Nat) : Int) → TW E K F G11 H → va_S (xA E) s.heap H locs → lv_has ls 5 [(0, .ref a), (2, .int l2_18), (3, .int l3_18)] → W p l e rm_X10_settledSince s m args below meth c H locs 0 0 Q (F0 m 18 ls []) := by
    intro N18
    induction N18 with
    | zero =>
      intro l2_18 l3_18 H locs ls pc I18_0 I18_1 hm18
      exact absurd hm18 (z_X10_changedSince_1 l3_18.toInt ((G11.1 (F a 9) 6).toInt) I18_0 t11)
    | succ N18 ih18 =>
      intro l2_18 l3_18 H locs ls pc I18_0 I18_1 hm18 hT hS hl
      refine lv_iload_n hx hb dX10_settledSince_18 rfl (lv_at hl 2 rfl) ?_
      refine lv_aload_n hx hb dX10_settledSince_19 rfl (lv_at hl 0 rfl) ?_
      refine gX10_9 S hK hT ha kf_X10_61 dX10_settledSince_20 (fun _ _ => ?_)
      refine x_clp (x_runV (b := (F a 9)) (As := []) (rest := [.int l3_18]) S (c_X4_size l E K F G11 H (F a 9) hk9999a) mv_X4_size km_X10_232 rfl rfl ⟨Nat.le_of_ble_eq_true rfl, Nat.le_of_ble_eq_true rfl⟩ (rc_6 hK hT hk9999a) hK (fun _ => XPh.blind) (fun U hU hW => XPh.at hK hz hS hT hU hW) rfl hl.1 (Nat.le_of_ble_eq_true rfl) dX10_settledSince_23 ⟨Nat.le_of_ble_eq_true rfl, Nat.le_of_ble_eq_true rfl⟩) hS ?_
      rintro _ _ locs ⟨x23, rfl, t23⟩ hS
      have t23 : x23.toInt = ((G11.1 (F a 9) 6).toInt) := t23
      refine xi_cge (tgt := 88) hx hb (rfl : Int32.toInt l3_18 = l3_18.toInt) (t23 : Int32.toInt x23 = ((G11.1 (F a 9) 6).toInt)) dX10_settledSince_26 (by decide) (fun c26 => ?_) (fun c26 => ?_)
      · refine lv_iload_n hx hb dX10_settledSince_88 rfl (lv_at hl 1 rfl) ?_
        exact x_ri hx hb hr hlk hQ (Nat.le_of_ble_eq_true rfl) (Nat.le_of_ble_eq_true rfl) hS dX10_settledSince_89 G11 ⟨_, rfl, (XFr.call XFr.rf hF11 (xm1 0 rfl (xm1 1 rfl xm0)) (xm1 0 rfl (xm1 1 rfl (xm1 2 rfl (xm1 3 rfl (xm1 4 rfl (xm1 5 rfl (xm1 6 rfl (xm1 7 rfl (xm1 8 rfl xm0))))))))) xm0), (v_X10_settledSince_89_6 (K := K) (F := F) a p0 G G11 l2_18 l3_18 N18 ha hp0 j0 oq11 pc sb t11 I18_0 I18_1 hm18 c26)⟩ hT
      · refine lv_aload_n hx hb dX10_settledSince_29 rfl (lv_at hl 0 rfl) ?_
        refine gX10_2 S hK hT ha kf_X10_30 dX10_settledSince_30 (fun _ _ => ?_)
        refine lv_aload_n hx hb dX10_settledSince_33 rfl (lv_at hl 0 rfl) ?_
        refine gX10_9 S hK hT ha kf_X10_61 dX10_settledSince_34 (fun _ _ => ?_)
        refine lv_iload_n hx hb dX10_settledSince_37 rfl (lv_at hl 2 rfl) ?_
        refine x_clp (x_runV (b := (F a 9)) (As := [.int l3_18]) (rest := [.ref (F a 2)]) S (c_X4_number l E K F G11 H (F a 9) l3_18 hk9999a) mv_X4_number km_X10_301 rfl rfl ⟨Nat.le_of_ble_eq_true rfl, Nat.le_of_ble_eq_true rfl⟩ (rc_6 hK hT hk9999a) hK (fun _ => XPh.blind) (fun U hU hW => XPh.at hK hz hS hT hU hW) rfl hl.1 (Nat.le_of_ble_eq_true rfl) dX10_settledSince_38 ⟨Nat.le_of_ble_eq_true rfl, Nat.le_of_ble_eq_true rfl⟩) hS ?_
        rintro _ _ locs ⟨x38, rfl, t38⟩ hS
        have t38 : ((0 ≤ l3_18.toInt ∧ l3_18.toInt < ((G11.1 (F a 9) 6).toInt) ∧ l3_18.toInt < 1080) ∧ x38.toInt = (aI (G11.2.1 (F (F a 9) 0)) (l3_18.toInt))) ∨ (¬ (0 ≤ l3_18.toInt ∧ l3_18.toInt < ((G11.1 (F a 9) 6).toInt) ∧ l3_18.toInt < 1080) ∧ x38.toInt = -1) := t38
        refine x_clp (x_runV (b := (F a 2)) (As := [.int x38]) (rest := []) S (c_X0_get l E K F G11 H (F a 2) x38 hk9999k) mv_X0_get km_X10_159 rfl rfl ⟨Nat.le_of_ble_eq_true rfl, Nat.le_of_ble_eq_true rfl⟩ (rc_2 hK hT hk9999k) hK (fun _ => XPh.blind) (fun U hU hW => XPh.at hK hz hS hT hU hW) rfl hl.1 (Nat.le_of_ble_eq_true rfl) dX10_settledSince_41 ⟨Nat.le_of_ble_eq_true rfl, Nat.le_of_ble_eq_true rfl⟩) hS ?_
        rintro _ _ locs (⟨rfl, hn41⟩ | ⟨q41, rfl, hk41, ht41, hs41⟩) hS
        · refine lv_astoreN (lv' := [(4, .null), (0, .ref a), (2, .int l2_18), (3, .int l3_18)]) hx hb dX10_settledSince_44 hl (by decide) rfl (fun ls hl => ?_)
          refine lv_aloadN hx hb dX10_settledSince_46 (lv_at hl 0 rfl) ?_
          refine lv_ifnullN (tgt := 82) hx hb dX10_settledSince_48 (by decide) ?_
          refine xi_iinc (n := 1) (lv' := fun z9 => [(3, .int z9), (4, .null), (0, .ref a), (2, .int l2_18)]) (k := 3) hx hb (rfl : Int32.toInt l3_18 = l3_18.toInt) (by decide) dX10_settledSince_82 hl rfl (by decide) (fun _ => rfl) (fun x82 ls t82 hl => ?_)
          have e82 : x82.toInt = (l3_18.toInt + 1) := (z_X10_changedSince_2 l3_18.toInt x82.toInt ((G11.1 (F a 9) 6).toInt) t11 I18_0 t82)
          have hl : lv_has ls 5 [(3, .int x82), (4, .null), (0, .ref a), (2, .int l2_18)] := hl
          refine lv_goto (tgt := 18) hx hb dX10_settledSince_85 (by decide) ?_
          exact ih18 l2_18 x82 _ _ _ (by rw [(e82 : Int32.toInt x82 = (l3_18.toInt + 1))] <;> exact (v_X10_settledSince_85_7 (K := K) (F := F) a p0 G G11 l2_18 l3_18 x38 N18 ha hp0 j0 pc hn41 sb t11 I18_0 I18_1 hm18 c26 t38 (hF11.2.2 _ xn0))) (by rw [(e82 : Int32.toInt x82 = (l3_18.toInt + 1))] <;> exact (z_X10_changedSince_3 l3_18.toInt ((G11.1 (F a 9) 6).toInt) I18_0 c26)) (by rw [(e82 : Int32.toInt x82 = (l3_18.toInt + 1))] <;> exact (z_X10_changedSince_4 l2_18.toInt l3_18.toInt I18_1)) (by rw [(e82 : Int32.toInt x82 = (l3_18.toInt + 1))] <;> exact (z_X10_changedSince_5 l3_18.toInt N18 hm18)) hT hS (lv_sub hl [2, 3, 0] rfl)
        · have ht41 : 0 ≤ x38.toInt ∧ x38.toInt < 12 := ht41
          refine lv_astore (lv' := [(4, .ref q41), (0, .ref a), (2, .int l2_18), (3, .int l3_18)]) hx hb dX10_settledSince_44 hl (by decide) rfl (fun ls hl => ?_)
          refine lv_aload hx hb dX10_settledSince_46 (lv_at hl 0 rfl) ?_
          refine lv_ifnull hx hb dX10_settledSince_48 ?_
          refine lv_aload hx hb dX10_settledSince_51 (lv_at hl 0 rfl) ?_
          refine lv_aload_n hx hb dX10_settledSince_53 rfl (lv_at hl 1 rfl) ?_
          refine gX10_3 S hK hT ha kf_X10_37 dX10_settledSince_54 (fun _ _ => ?_)
          refine lv_aload_n hx hb dX10_settledSince_57 rfl (lv_at hl 1 rfl) ?_
          refine gX10_9 S hK hT ha kf_X10_61 dX10_settledSince_58 (fun _ _ => ?_)
          refine lv_iload_n hx hb dX10_settledSince_61 rfl (lv_at hl 3 rfl) ?_
          refine x_clp (x_runV (b := (F a 9)) (As := [.int l3_18]) (rest := [.ref (F a 3), .ref q41]) S (c_X4_subject l E K F G11 H (F a 9) l3_18 hk9999a) mv_X4_subject km_X10_147 rfl rfl ⟨Nat.le_of_ble_eq_true rfl, Nat.le_of_ble_eq_true rfl⟩ (rc_6 hK hT hk9999a) hK (fun _ => XPh.blind) (fun U hU hW => XPh.at hK hz hS hT hU hW) rfl hl.1 (Nat.le_of_ble_eq_true rfl) dX10_settledSince_62 ⟨Nat.le_of_ble_eq_true rfl, Nat.le_of_ble_eq_true rfl⟩) hS ?_
          rintro _ _ locs ⟨x62, rfl, t62⟩ hS
          have t62 : ((0 ≤ l3_18.toInt ∧ l3_18.toInt < ((G11.1 (F a 9) 6).toInt) ∧ l3_18.toInt < 1080) ∧ x62.toInt = (aI (G11.2.1 (F (F a 9) 1)) (l3_18.toInt))) ∨ (¬ (0 ≤ l3_18.toInt ∧ l3_18.toInt < ((G11.1 (F a 9) 6).toInt) ∧ l3_18.toInt < 1080) ∧ x62.toInt = -1) := t62
          refine x_clp (x_runV (b := q41) (As := [.ref (F a 3), .int x62]) (rest := []) S (c_X7_state l E K F G11 H q41 (F a 3) x62 hk41 hk9999s (v_X10_settledSince_65_8 (F := F) a p0 G G11 rox rob ron (hF11.2.1 _ (xn1 (xne_k hk9999t hk9999b (by decide)) (xn1 (xne_k hk9999t hk9999c (by decide)) (xn1 (xne_k hk9999t hk9999d (by decide)) (xn1 (xne_k hk9999t hk9999e (by decide)) (xn1 (xne_k hk9999t hk9999f (by decide)) (xn1 (xne_k hk9999t hk9999g (by decide)) (xn1 (xne_k hk9999t hk9999h (by decide)) (xn1 (xne_k hk9999t hk9999i (by decide)) (xn1 (xne_k hk9999t hk9999j (by decide)) xn0)))))))))) (hF11.2.1 _ (xn1 (xne_j hj9999z31 hj9999b (by first | decide | omega)) (xn1 (xne_j hj9999z31 hj9999c (by first | decide | omega)) (xn1 (xne_k hk9999u hk9999d (by decide)) (xn1 (xne_k hk9999u hk9999e (by decide)) (xn1 (xne_k hk9999u hk9999f (by decide)) (xn1 (xne_k hk9999u hk9999g (by decide)) (xn1 (xne_k hk9999u hk9999h (by decide)) (xn1 (xne_k hk9999u hk9999i (by decide)) (xn1 (xne_k hk9999u hk9999j (by decide)) xn0))))))))))) (v_X10_settledSince_65_9 (K := K) (F := F) G a G11 x38 q41 bkn hs41 ht41 (hF11.2.2 _ xn0) (fr_A hF11 (fun _ => (xna (xne_k hk41 hk9999 (by decide)) (xna (xne_k hk41 hk9999a (by decide)) xn0)))))) mv_X7_state km_X10_328 rfl rfl ⟨Nat.le_of_ble_eq_true rfl, Nat.le_of_ble_eq_true rfl⟩ (rc_9 hK hT hk41) hK (fun _ => XPh.blind) (fun U hU hW => XPh.at hK hz hS hT hU hW) rfl hl.1 (Nat.le_of_ble_eq_true rfl) dX10_settledSince_65 ⟨Nat.le_of_ble_eq_true rfl, Nat.le_of_ble_eq_true rfl⟩) hS ?_
          rintro _ _ locs ⟨x65, rfl, t65⟩ hS
          have t65 : x65.toInt = (stt (vw (G.2.1 (F (F a 3) 0))) ((G.1 q41 0).toInt) ((G.1 q41 2).toInt) ((G.1 q41 3).toInt) ((G.1 q41 4).toInt) (x62.toInt)) := by rw [(show G11.2.1 (F (F a 3) 0) = G.2.1 (F (F a 3) 0) from (hF11.2.1 _ (xn1 (xne_k hk9999t hk9999b (by decide)) (xn1 (xne_k hk9999t hk9999c (by decide)) (xn1 (xne_k hk9999t hk9999d (by decide)) (xn1 (xne_k hk9999t hk9999e (by decide)) (xn1 (xne_k hk9999t hk9999f (by decide)) (xn1 (xne_k hk9999t hk9999g (by decide)) (xn1 (xne_k hk9999t hk9999h (by decide)) (xn1 (xne_k hk9999t hk9999i (by decide)) (xn1 (xne_k hk9999t hk9999j (by decide)) xn0)))))))))))] at t65; rw [(show (G11.1 q41 0).toInt = ((G.1 q41 0).toInt) from (congrArg Int32.toInt (hF11.1 _ _ (xnj (by decide) (xnj (by decide) xn0)))).trans (rfl : Int32.toInt (G.1 q41 0) = ((G.1 q41 0).toInt)))] at t65; rw [(show (G11.1 q41 2).toInt = ((G.1 q41 2).toInt) from (congrArg Int32.toInt (hF11.1 _ _ (xnj (by decide) (xnj (by decide) xn0)))).trans (rfl : Int32.toInt (G.1 q41 2) = ((G.1 q41 2).toInt)))] at t65; rw [(show (G11.1 q41 3).toInt = ((G.1 q41 3).toInt) from (congrArg Int32.toInt (hF11.1 _ _ (xna (xne_k hk41 hk9999 (by decide)) (xnj (by decide) xn0)))).trans (rfl : Int32.toInt (G.1 q41 3) = ((G.1 q41 3).toInt)))] at t65; rw [(show (G11.1 q41 4).toInt = ((G.1 q41 4).toInt) from (congrArg Int32.toInt (hF11.1 _ _ (xnj (by decide) (xnj (by decide) xn0)))).trans (rfl : Int32.toInt (G.1 q41 4) = ((G.1 q41 4).toInt)))] at t65; exact t65
          refine lv_aload_n hx hb dX10_settledSince_68 rfl (lv_at hl 1 rfl) ?_
          refine gX10_9 S hK hT ha kf_X10_61 dX10_settledSince_69 (fun _ _ => ?_)
          refine lv_iload_n hx hb dX10_settledSince_72 rfl (lv_at hl 3 rfl) ?_
          refine x_clp (x_runV (b := (F a 9)) (As := [.int l3_18]) (rest := [.int x65]) S (c_X4_before l E K F G11 H (F a 9) l3_18 hk9999a) mv_X4_before km_X10_303 rfl rfl ⟨Nat.le_of_ble_eq_true rfl, Nat.le_of_ble_eq_true rfl⟩ (rc_6 hK hT hk9999a) hK (fun _ => XPh.blind) (fun U hU hW => XPh.at hK hz hS hT hU hW) rfl hl.1 (Nat.le_of_ble_eq_true rfl) dX10_settledSince_73 ⟨Nat.le_of_ble_eq_true rfl, Nat.le_of_ble_eq_true rfl⟩) hS ?_
          rintro _ _ locs ⟨x73, rfl, t73⟩ hS
          have t73 : ((0 ≤ l3_18.toInt ∧ l3_18.toInt < ((G11.1 (F a 9) 6).toInt) ∧ l3_18.toInt < 1080) ∧ x73.toInt = (aI (G11.2.1 (F (F a 9) 2)) (l3_18.toInt))) ∨ (¬ (0 ≤ l3_18.toInt ∧ l3_18.toInt < ((G11.1 (F a 9) 6).toInt) ∧ l3_18.toInt < 1080) ∧ x73.toInt = -2000) := t73
          refine xi_cne (tgt := 82) hx hb (t65 : Int32.toInt x65 = (stt (vw (G.2.1 (F (F a 3) 0))) ((G.1 q41 0).toInt) ((G.1 q41 2).toInt) ((G.1 q41 3).toInt) ((G.1 q41 4).toInt) (x62.toInt))) (rfl : Int32.toInt x73 = x73.toInt) dX10_settledSince_76 (by decide) (fun c76 => ?_) (fun c76 => ?_)
          · refine xi_iinc (n := 1) (lv' := fun z9 => [(3, .int z9), (4, .ref q41), (0, .ref a), (2, .int l2_18)]) (k := 3) hx hb (rfl : Int32.toInt l3_18 = l3_18.toInt) (by decide) dX10_settledSince_82 hl rfl (by decide) (fun _ => rfl) (fun x82 ls t82 hl => ?_)
            have e82 : x82.toInt = (l3_18.toInt + 1) := (z_X10_changedSince_2 l3_18.toInt x82.toInt ((G11.1 (F a 9) 6).toInt) t11 I18_0 t82)
            have hl : lv_has ls 5 [(3, .int x82), (4, .ref q41), (0, .ref a), (2, .int l2_18)] := hl
            refine lv_goto (tgt := 18) hx hb dX10_settledSince_85 (by decide) ?_
            exact ih18 l2_18 x82 _ _ _ (by rw [(e82 : Int32.toInt x82 = (l3_18.toInt + 1))] <;> exact (v_X10_settledSince_85_10 (K := K) (F := F) a p0 q41 G G11 l2_18 l3_18 x38 x65 x62 N18 x73 ha hp0 j0 pc hs41 t65 sb t11 I18_0 I18_1 hm18 c26 t38 ht41 t62 t73 c76 (hF11.2.2 _ xn0))) (by rw [(e82 : Int32.toInt x82 = (l3_18.toInt + 1))] <;> exact (z_X10_changedSince_3 l3_18.toInt ((G11.1 (F a 9) 6).toInt) I18_0 c26)) (by rw [(e82 : Int32.toInt x82 = (l3_18.toInt + 1))] <;> exact (z_X10_changedSince_4 l2_18.toInt l3_18.toInt I18_1)) (by rw [(e82 : Int32.toInt x82 = (l3_18.toInt + 1))] <;> exact (z_X10_changedSince_5 l3_18.toInt N18 hm18)) hT hS (lv_sub hl [2, 3, 0] rfl)
          · refine xi_iinc (n := 1) (lv' := fun z9 => [(2, .int z9), (4, .ref q41), (0, .ref a), (3, .int l3_18)]) (k := 2) hx hb (rfl : Int32.toInt l2_18 = l2_18.toInt) (by decide) dX10_settledSince_79 hl rfl (by decide) (fun _ => rfl) (fun x79 ls t79 hl => ?_)
            have e79 : x79.toInt = (l2_18.toInt + 1) := (z_X10_changedSince_10 l2_18.toInt l3_18.toInt x79.toInt ((G11.1 (F a 9) 6).toInt) t11 I18_1 c26 t79)
            have hl : lv_has ls 5 [(2, .int x79), (4, .ref q41), (0, .ref a), (3, .int l3_18)] := hl
            refine xi_iinc (n := 1) (lv' := fun z9 => [(3, .int z9), (2, .int x79), (4, .ref q41), (0, .ref a)]) (k := 3) hx hb (rfl : Int32.toInt l3_18 = l3_18.toInt) (by decide) dX10_settledSince_82 hl rfl (by decide) (fun _ => rfl) (fun x82 ls t82 hl => ?_)
            have e82 : x82.toInt = (l3_18.toInt + 1) := (z_X10_changedSince_2 l3_18.toInt x82.toInt ((G11.1 (F a 9) 6).toInt) t11 I18_0 t82)
            have hl : lv_has ls 5 [(3, .int x82), (2, .int x79), (4, .ref q41), (0, .ref a)] := hl
            refine lv_goto (tgt := 18) hx hb dX10_settledSince_85 (by decide) ?_
            exact ih18 x79 x82 _ _ _ (by rw [(e79 : Int32.toInt x79 = (l2_18.toInt + 1)), (e82 : Int32.toInt x82 = (l3_18.toInt + 1))] <;> exact (v_X10_settledSince_85_11 (K := K) (F := F) a p0 q41 G G11 l2_18 l3_18 x38 x65 x62 N18 x73 ha hp0 j0 pc hs41 t65 sb t11 I18_0 I18_1 hm18 c26 t38 ht41 t62 t73 c76 (hF11.2.2 _ xn0))) (by rw [(e82 : Int32.toInt x82 = (l3_18.toInt + 1))] <;> exact (z_X10_changedSince_3 l3_18.toInt ((G11.1 (F a 9) 6).toInt) I18_0 c26)) (by rw [(e79 : Int32.toInt x79 = (l2_18.toInt + 1)), (e82 : Int32.toInt x82 = (l3_18.toInt + 1))] <;> exact (z_X10_changedSince_13 l2_18.toInt l3_18.toInt I18_1)) (by rw [(e82 : Int32.toInt x82 = (l3_18.toInt + 1))] <;> exact (z_X10_changedSince_5 l3_18.toInt N18 hm18)) hT hS (lv_sub hl [3, 1, 0] rfl)
  exact L18 4294967297 0 0 _ _ _ (v_X10_settledSince_17_12 (F := F) a G G11) (z_X10_changedSince_15 ((G11.1 (F a 9) 6).toInt) t11) (by decide) (by decide) hT hS (lv_sub hl [2, 1, 0] rfl)

abbrev rm_X10_fresh : Room := { frames := 7, cells := 0, slots := 0, locals := 173 }
set_option maxHeartbeats 4000000 in
set_option maxRecDepth 100000 in
theorem c_X10_fresh (l : Launch) (E : XE) (K : Nat → Nat) (F : Nat → Nat → Nat) (G : XG) (a : Nat) (p0 : Int32) (p1 : Int32) (ha : K a = 12) (sb : 0 ≤ ((G.1 (F a 2) 2).toInt) ∧ ((G.1 (F a 2) 2).toInt) ≤ 12) (w8 : 0 ≤ ((G.1 (F a 8) 6).toInt) ∧ ((G.1 (F a 8) 6).toInt) ≤ 1080) (rob : RO (vw (G.2.1 (F (F a 4) 0))) (aI (G.2.1 (F (F a 4) 1)))) (ron : RO (vw (G.2.1 (F (F a 3) 0))) (aI (G.2.1 (F (F a 3) 1)))) (bko : BKr K G (G.2.2.1 (F (F a 2) 1))) (bkn : BKr K G (G.2.2.1 (F (F a 2) 0))) (rok : ∀ (i q : Nat), i < 8 → G.2.2.1 (F a 7) i = some q → RO (vw (G.2.1 (F q 0))) (aI (G.2.1 (F q 1)))) : Met l yX10_fresh (xw yX10_fresh cX10_fresh 4 (some .int)) rm_X10_fresh (va_Pc [.ref a, .int p0, .int p1] (XP E K F G)) (XQ E (fun v (u : XG) => ∃ r : Int32, v = .int r ∧ XFr [(F a 11, 3), (F a 9, 6)] [F (F a 11) 0, F (F a 11) 1, F (F a 11) 2, F (F a 9) 0, F (F a 9) 1, F (F a 9) 2, F (F a 9) 3, F (F a 9) 4, F (F a 9) 5] [] G u ∧ ((((p0.toInt < 0 ∨ ((G.1 a 17).toInt) ≤ p0.toInt ∨ 8 ≤ p0.toInt) ∨ p1.toInt < 0 ∨ 1 < p1.toInt) ∧ r.toInt = -1) ∨ (∃ q : Nat, (0 ≤ p0.toInt ∧ p0.toInt < ((G.1 a 17).toInt) ∧ p0.toInt < 8) ∧ G.2.2.1 (F a 7) (p0.toInt).toNat = some q ∧ ((p1.toInt = 0 ∧ r.toInt = smQ (chQ G (G.2.2.1 (F (F a 2) 0)) (vw (G.2.1 (F q 0)))) (qL G F (F a 8))) ∨ (p1.toInt = 1 ∧ r.toInt = smQ (seQ G (G.2.2.1 (F (F a 2) 0)) (vw (G.2.1 (F (F a 3) 0)))) (gaL G (G.2.2.1 (F (F a 2) 1)) (vw (G.2.1 (F (F a 4) 0))) (vw (G.2.1 (F q 0))) 1 (((G.1 (F a 2) 2).toInt)).toNat)))))) (fun u H => TW E K F u H)) 0 0 (xA E) := by
  refine x_enter (by decide) (Nat.le_of_ble_eq_true rfl) ?_
  intro p e s m args below meth c Q S hr hlk hnm hQ hP ls hl
  obtain ⟨hz, hK, hT⟩ := hP
  obtain ⟨hx, hb, -, -, -⟩ := id S
  obtain ⟨H, hT, hS, hgo⟩ : ∃ H : Heap, TW E K F G H ∧ va_S (xA E) s.heap H [] ∧ H = s.heap := ⟨_, hT, va_S.rf, rfl⟩
  rw [← hgo]
  have hl : lv_has ls 4 [(0, .ref a), (1, .int p0), (2, .int p1)] := hl
  obtain ⟨hk9999, hj9999⟩ := fkX10_11 hT ha
  obtain ⟨hk9999a, hj9999a⟩ := fkX10_9 hT ha
  obtain ⟨hk9999b, hj9999b⟩ := fkX1_0 hT hk9999
  obtain ⟨hk9999c, hj9999c⟩ := fkX1_1 hT hk9999
  obtain ⟨hk9999d, hj9999d⟩ := fkX1_2 hT hk9999
  obtain ⟨hk9999e, hj9999e⟩ := fkX4_0 hT hk9999a
  have hj9999f : F (F (F a 9) 0) 99 = 10 * 1 + 0 := by rw [hj9999e, hj9999a]
  obtain ⟨hk9999f, hj9999g⟩ := fkX4_1 hT hk9999a
  have hj9999h : F (F (F a 9) 1) 99 = 10 * 1 + 1 := by rw [hj9999g, hj9999a]
  obtain ⟨hk9999g, hj9999i⟩ := fkX4_2 hT hk9999a
  have hj9999j : F (F (F a 9) 2) 99 = 10 * 1 + 2 := by rw [hj9999i, hj9999a]
  obtain ⟨hk9999h, hj9999k⟩ := fkX4_3 hT hk9999a
  have hj9999l : F (F (F a 9) 3) 99 = 10 * 1 + 3 := by rw [hj9999k, hj9999a]
  obtain ⟨hk9999i, hj9999m⟩ := fkX4_4 hT hk9999a
  have hj9999n : F (F (F a 9) 4) 99 = 10 * 1 + 4 := by rw [hj9999m, hj9999a]
  obtain ⟨hk9999j, hj9999o⟩ := fkX4_5 hT hk9999a
  have hj9999p : F (F (F a 9) 5) 99 = 10 * 1 + 5 := by rw [hj9999o, hj9999a]
  obtain ⟨hk9999k, hj9999q⟩ := fkX10_2 hT ha
  obtain ⟨hk9999l, hj9999r⟩ := fkX0_0 hT hk9999k
  obtain ⟨hk9999m, hj9999s⟩ := fkX0_1 hT hk9999k
  obtain ⟨hk9999n, hj9999t⟩ := fkX10_7 hT ha
  obtain ⟨hk9999o, hj9999u⟩ := fkX10_8 hT ha
  obtain ⟨hk9999p, hj9999v⟩ := fkX10_4 hT ha
  obtain ⟨hk9999q, hj9999w⟩ := fkX6_0 hT hk9999p
  have hj9999y : F (F (F a 4) 0) 99 = 1 := by rw [hj9999w, hj9999v]
  obtain ⟨hk9999r, hj9999z25⟩ := fkX6_1 hT hk9999p
  have hj9999z26 : F (F (F a 4) 1) 99 = 1 := by rw [hj9999z25, hj9999v]
  obtain ⟨hk9999s, hj9999z27⟩ := fkX10_3 hT ha
  obtain ⟨hk9999t, hj9999z28⟩ := fkX6_0 hT hk9999s
  have hj9999z29 : F (F (F a 3) 0) 99 = 0 := by rw [hj9999z28, hj9999z27]
  obtain ⟨hk9999u, hj9999z30⟩ := fkX6_1 hT hk9999s
  have hj9999z31 : F (F (F a 3) 1) 99 = 0 := by rw [hj9999z30, hj9999z27]
  refine lv_aload_n hx hb dX10_fresh_0 rfl (lv_at hl 0 rfl) ?_
  refine lv_iload_n hx hb dX10_fresh_1 rfl (lv_at hl 1 rfl) ?_
  refine x_clp (x_runV (b := a) (As := [.int p0]) (rest := []) S (c_X10_rowsAtMark l E K F G H a p0 ha) mv_X10_rowsAtMark km_X10_236 rfl rfl ⟨Nat.le_of_ble_eq_true rfl, Nat.le_of_ble_eq_true rfl⟩ (rc_12 hK hT ha) hK (fun _ => XPh.blind) (fun U hU hW => XPh.at hK hz hS hT hU hW) rfl hl.1 (Nat.le_of_ble_eq_true rfl) dX10_fresh_2 ⟨Nat.le_of_ble_eq_true rfl, Nat.le_of_ble_eq_true rfl⟩) hS ?_
  rintro _ _ locs (⟨rfl, hn2⟩ | ⟨q2, rfl, hk2, ht2, hs2⟩) hS
  · refine lv_astore_nN (lv' := [(3, .null), (0, .ref a), (1, .int p0), (2, .int p1)]) hx hb dX10_fresh_5 rfl hl (by decide) rfl (fun ls hl => ?_)
    refine lv_aload_nN hx hb dX10_fresh_6 rfl (lv_at hl 0 rfl) ?_
    refine lv_ifnonnullN hx hb dX10_fresh_7 ?_
    refine lv_iconst (v := (-1)) hx hb dX10_fresh_10 (by decide) ?_
    exact x_ri hx hb hr hlk hQ (Nat.le_of_ble_eq_true rfl) (Nat.le_of_ble_eq_true rfl) hS dX10_fresh_11 G ⟨_, rfl, XFr.rf, (by rw [((by decide) : Int32.toInt (-1) = (-1 : Int))] <;> exact (v_X10_fresh_11_1 (F := F) a G p0 p1 hn2))⟩ hT
  · have ht2 : 0 ≤ p0.toInt ∧ p0.toInt < ((G.1 a 17).toInt) ∧ p0.toInt < 8 := ht2
    refine lv_astore_n (lv' := [(3, .ref q2), (0, .ref a), (1, .int p0), (2, .int p1)]) hx hb dX10_fresh_5 rfl hl (by decide) rfl (fun ls hl => ?_)
    refine lv_aload_n hx hb dX10_fresh_6 rfl (lv_at hl 0 rfl) ?_
    refine lv_ifnonnull (tgt := 12) hx hb dX10_fresh_7 (by decide) ?_
    refine lv_iload_n hx hb dX10_fresh_12 rfl (lv_at hl 3 rfl) ?_
    rcases ((z_X10_question_1 p1.toInt) : (¬ p1.toInt = 0 ∧ ¬ p1.toInt = 1) ∨ (p1.toInt = 0) ∨ (p1.toInt = 1)) with c13 | c13 | c13
    · refine lv_lookup (off := 39) (tgt := 52) hx hb dX10_fresh_13 (by decide) (by first | (simp only [Op.lookupswitch.offset_cons, Op.lookupswitch.offset_nil]; (repeat' split) <;> omega) | (simp [Op.lookupswitch.offset]; (repeat' split) <;> omega) | (simp [Op.lookupswitch.offset]; omega)) (by decide) ?_
      refine lv_iconst (v := (-1)) hx hb dX10_fresh_52 (by decide) ?_
      exact x_ri hx hb hr hlk hQ (Nat.le_of_ble_eq_true rfl) (Nat.le_of_ble_eq_true rfl) hS dX10_fresh_53 G ⟨_, rfl, XFr.rf, (by rw [((by decide) : Int32.toInt (-1) = (-1 : Int))] <;> exact (v_X10_fresh_53_2 (K := K) (F := F) a q2 p0 G p1 ha ((hs2).1) hs2 sb w8 ht2 c13))⟩ hT
    · refine lv_lookup (off := 27) (tgt := 40) hx hb dX10_fresh_13 (by decide) (by rw [c13]; rfl) (by decide) ?_
      refine lv_aload_n hx hb dX10_fresh_40 rfl (lv_at hl 1 rfl) ?_
      refine lv_aload_n hx hb dX10_fresh_41 rfl (lv_at hl 0 rfl) ?_
      refine x_clp (x_runV (b := a) (As := [.ref q2]) (rest := []) S (c_X10_changedSince l E K F G H a q2 ha hk2 (w8) (v_X10_fresh_42_3 (F := F) G a q2 p0 rok hs2 ht2) (v_X10_fresh_42_4 (K := K) (F := F) a G bkn)) mv_X10_changedSince km_X10_318 rfl rfl ⟨Nat.le_of_ble_eq_true rfl, Nat.le_of_ble_eq_true rfl⟩ (rc_12 hK hT ha) hK (fun _ => XPh.blind) (fun U hU hW => XPh.at hK hz hS hT hU hW) rfl hl.1 (Nat.le_of_ble_eq_true rfl) dX10_fresh_42 ⟨Nat.le_of_ble_eq_true rfl, Nat.le_of_ble_eq_true rfl⟩) hS ?_
      rintro _ _ locs ⟨x42, rfl, oq42⟩ hS
      obtain ⟨hk42, hj42⟩ := fkX6_0 hT hk2
      have hj42a : F (F q2 0) 99 = 4 + (p0.toInt).toNat := by rw [hj42, (hs2).1]
      exact x_ri hx hb hr hlk hQ (Nat.le_of_ble_eq_true rfl) (Nat.le_of_ble_eq_true rfl) hS dX10_fresh_45 G ⟨_, rfl, XFr.rf, (v_X10_fresh_45_5 (F := F) a q2 p0 G x42 p1 hs2 oq42 ht2 c13)⟩ hT
    · refine lv_lookup (off := 33) (tgt := 46) hx hb dX10_fresh_13 (by decide) (by rw [c13]; rfl) (by decide) ?_
      refine lv_aload_n hx hb dX10_fresh_46 rfl (lv_at hl 1 rfl) ?_
      refine lv_aload_n hx hb dX10_fresh_47 rfl (lv_at hl 0 rfl) ?_
      refine x_cl0 (x_runV (b := a) (As := [.ref q2]) (rest := []) S (c_X10_settledSince l E K F G a q2 ha hk2 (sb) (v_X10_fresh_48_6 (F := F) G a q2 p0 rok hs2 ht2) (v_X10_fresh_48_7 (F := F) q2 p0 G a hs2 ht2) (v_X10_fresh_48_8 (F := F) a G rob) (v_X10_fresh_48_9 (F := F) a G ron) (v_X10_fresh_48_10 (K := K) (F := F) a G bko) (v_X10_fresh_48_11 (K := K) (F := F) a G bkn)) mv_X10_settledSince km_X10_322 rfl rfl ⟨Nat.le_of_ble_eq_true rfl, Nat.le_of_ble_eq_true rfl⟩ (rc_12 hK hT ha) hK (fun _ => XP.blind) (fun U hU hW => XP.at hK hz hS hT hU hW) rfl hl.1 (Nat.le_of_ble_eq_true rfl) dX10_fresh_48 ⟨Nat.le_of_ble_eq_true rfl, Nat.le_of_ble_eq_true rfl⟩) hS ?_
      rintro _ G48 H locs ⟨x48, rfl, hF48, oq48⟩ hT hS
      obtain ⟨hk48, hj48⟩ := fkX6_0 hT hk2
      have hj48a : F (F q2 0) 99 = 4 + (p0.toInt).toNat := by rw [hj48, (hs2).1]
      exact x_ri hx hb hr hlk hQ (Nat.le_of_ble_eq_true rfl) (Nat.le_of_ble_eq_true rfl) hS dX10_fresh_51 G48 ⟨_, rfl, (XFr.call XFr.rf hF48 (xm1 0 rfl (xm1 1 rfl xm0)) (xm1 0 rfl (xm1 1 rfl (xm1 2 rfl (xm1 3 rfl (xm1 4 rfl (xm1 5 rfl (xm1 6 rfl (xm1 7 rfl (xm1 8 rfl xm0))))))))) xm0), (v_X10_fresh_51_12 (F := F) a q2 p0 G x48 p1 hs2 oq48 ht2 c13)⟩ hT

abbrev rm_X10_verdict : Room := { frames := 3, cells := 0, slots := 0, locals := 60 }
set_option maxHeartbeats 4000000 in
set_option maxRecDepth 100000 in
theorem c_X10_verdict (l : Launch) (E : XE) (K : Nat → Nat) (F : Nat → Nat → Nat) (G : XG) (h0 : Heap) (a : Nat) (p0 : Int32) (ha : K a = 12) : Met l yX10_verdict (xw yX10_verdict cX10_verdict 2 (some .int)) rm_X10_verdict (va_Pc [.ref a, .int p0] (XPh E K F G h0)) (XQ E (fun v (u : Unit) => ∃ r : Int32, v = .int r) (fun _ H => H = h0)) 0 0 (xA E) := by
  refine x_enter (by decide) (Nat.le_of_ble_eq_true rfl) ?_
  intro p e s m args below meth c Q S hr hlk hnm hQ hP ls hl
  obtain ⟨⟨hz, hK, hT⟩, hh⟩ := hP
  obtain ⟨hx, hb, -, -, -⟩ := id S
  have hS : va_S (xA E) s.heap s.heap [] := va_S.rf
  have hl : lv_has ls 2 [(0, .ref a), (1, .int p0)] := hl
  refine lv_iload_n hx hb dX10_verdict_0 rfl (lv_at hl 1 rfl) ?_
  refine lv_iconst (v := 2) hx hb dX10_verdict_1 (by decide) ?_
  refine xi_cne (tgt := 13) hx hb (rfl : Int32.toInt p0 = p0.toInt) ((by decide) : Int32.toInt 2 = (2 : Int)) dX10_verdict_2 (by decide) (fun c2 => ?_) (fun c2 => ?_)
  · refine lv_aload_n hx hb dX10_verdict_13 rfl (lv_at hl 0 rfl) ?_
    obtain ⟨hk14, hj14⟩ := fkX10_14 hT ha
    refine gX10_14 S hK hT ha kf_X10_91 dX10_verdict_14 (fun _ _ => ?_)
    refine x_clp (x_runV (b := (F a 14)) (As := []) (rest := []) S (c_X9_isTold l E K F G s.heap (F a 14) hk14) mv_X9_isTold km_X10_341 rfl rfl ⟨Nat.le_of_ble_eq_true rfl, Nat.le_of_ble_eq_true rfl⟩ (rc_11 hK hT hk14) hK (fun _ => XPh.blind) (fun U hU hW => XPh.at hK hz hS hT hU hW) rfl hl.1 (Nat.le_of_ble_eq_true rfl) dX10_verdict_17 ⟨Nat.le_of_ble_eq_true rfl, Nat.le_of_ble_eq_true rfl⟩) hS ?_
    rintro _ _ locs ⟨x17, rfl, b17⟩ hS
    refine xi_zne (tgt := 27) hx hb (rfl : Int32.toInt x17 = x17.toInt) dX10_verdict_20 (by decide) (fun c20 => ?_) (fun c20 => ?_)
    · refine lv_iload_n hx hb dX10_verdict_27 rfl (lv_at hl 1 rfl) ?_
      rcases ((z_X10_question_1 p0.toInt) : (¬ p0.toInt = 0 ∧ ¬ p0.toInt = 1) ∨ (p0.toInt = 0) ∨ (p0.toInt = 1)) with c28 | c28 | c28
      · refine lv_lookup (off := 44) (tgt := 72) hx hb dX10_verdict_28 (by decide) (by first | (simp only [Op.lookupswitch.offset_cons, Op.lookupswitch.offset_nil]; (repeat' split) <;> omega) | (simp [Op.lookupswitch.offset]; (repeat' split) <;> omega) | (simp [Op.lookupswitch.offset]; omega)) (by decide) ?_
        refine lv_ldcw (v := (-2147483648)) hx hb S.2.2.2.1 (S.2.2.2.2 _ (List.mem_cons_of_mem _ kc_X10_274)) dX10_verdict_72 ?_
        exact x_ri hx hb hr hlk hQ (Nat.le_of_ble_eq_true rfl) (Nat.le_of_ble_eq_true rfl) hS dX10_verdict_75 () ⟨_, rfl⟩ hh
      · refine lv_lookup (off := 28) (tgt := 56) hx hb dX10_verdict_28 (by decide) (by rw [c28]; rfl) (by decide) ?_
        refine lv_aload_n hx hb dX10_verdict_56 rfl (lv_at hl 0 rfl) ?_
        refine gX10_14 S hK hT ha kf_X10_91 dX10_verdict_57 (fun _ _ => ?_)
        refine x_clp (x_runV (b := (F a 14)) (As := []) (rest := []) S (c_X9_number l E K F G s.heap (F a 14) hk14) mv_X9_number km_X10_345 rfl rfl ⟨Nat.le_of_ble_eq_true rfl, Nat.le_of_ble_eq_true rfl⟩ (rc_11 hK hT hk14) hK (fun _ => XPh.blind) (fun U hU hW => XPh.at hK hz hS hT hU hW) rfl hl.1 (Nat.le_of_ble_eq_true rfl) dX10_verdict_60 ⟨Nat.le_of_ble_eq_true rfl, Nat.le_of_ble_eq_true rfl⟩) hS ?_
        rintro _ _ locs ⟨x60, rfl⟩ hS
        exact x_ri hx hb hr hlk hQ (Nat.le_of_ble_eq_true rfl) (Nat.le_of_ble_eq_true rfl) hS dX10_verdict_63 () ⟨_, rfl⟩ hh
      · refine lv_lookup (off := 36) (tgt := 64) hx hb dX10_verdict_28 (by decide) (by rw [c28]; rfl) (by decide) ?_
        refine lv_aload_n hx hb dX10_verdict_64 rfl (lv_at hl 0 rfl) ?_
        refine gX10_14 S hK hT ha kf_X10_91 dX10_verdict_65 (fun _ _ => ?_)
        refine x_clp (x_runV (b := (F a 14)) (As := []) (rest := []) S (c_X9_subject l E K F G s.heap (F a 14) hk14) mv_X9_subject km_X10_347 rfl rfl ⟨Nat.le_of_ble_eq_true rfl, Nat.le_of_ble_eq_true rfl⟩ (rc_11 hK hT hk14) hK (fun _ => XPh.blind) (fun U hU hW => XPh.at hK hz hS hT hU hW) rfl hl.1 (Nat.le_of_ble_eq_true rfl) dX10_verdict_68 ⟨Nat.le_of_ble_eq_true rfl, Nat.le_of_ble_eq_true rfl⟩) hS ?_
        rintro _ _ locs ⟨x68, rfl⟩ hS
        exact x_ri hx hb hr hlk hQ (Nat.le_of_ble_eq_true rfl) (Nat.le_of_ble_eq_true rfl) hS dX10_verdict_71 () ⟨_, rfl⟩ hh
    · refine lv_ldcw (v := (-2147483648)) hx hb S.2.2.2.1 (S.2.2.2.2 _ (List.mem_cons_of_mem _ kc_X10_274)) dX10_verdict_23 ?_
      exact x_ri hx hb hr hlk hQ (Nat.le_of_ble_eq_true rfl) (Nat.le_of_ble_eq_true rfl) hS dX10_verdict_26 () ⟨_, rfl⟩ hh
  · refine lv_aload_n hx hb dX10_verdict_5 rfl (lv_at hl 0 rfl) ?_
    obtain ⟨hk6, hj6⟩ := fkX10_14 hT ha
    refine gX10_14 S hK hT ha kf_X10_91 dX10_verdict_6 (fun _ _ => ?_)
    refine x_clp (x_runV (b := (F a 14)) (As := []) (rest := []) S (c_X9_signs l E K F G s.heap (F a 14) hk6) mv_X9_signs km_X10_338 rfl rfl ⟨Nat.le_of_ble_eq_true rfl, Nat.le_of_ble_eq_true rfl⟩ (rc_11 hK hT hk6) hK (fun _ => XPh.blind) (fun U hU hW => XPh.at hK hz hS hT hU hW) rfl hl.1 (Nat.le_of_ble_eq_true rfl) dX10_verdict_9 ⟨Nat.le_of_ble_eq_true rfl, Nat.le_of_ble_eq_true rfl⟩) hS ?_
    rintro _ _ locs ⟨x9, rfl⟩ hS
    exact x_ri hx hb hr hlk hQ (Nat.le_of_ble_eq_true rfl) (Nat.le_of_ble_eq_true rfl) hS dX10_verdict_12 () ⟨_, rfl⟩ hh

abbrev rm_X10_letter : Room := { frames := 5, cells := 0, slots := 0, locals := 109 }
set_option maxHeartbeats 4000000 in
set_option maxRecDepth 100000 in
theorem c_X10_letter (l : Launch) (E : XE) (K : Nat → Nat) (F : Nat → Nat → Nat) (G : XG) (h0 : Heap) (a : Nat) (p0 : Int32) (ha : K a = 12) : Met l yX10_letter (xw yX10_letter cX10_letter 2 (some .int)) rm_X10_letter (va_Pc [.ref a, .int p0] (XPh E K F G h0)) (XQ E (fun v (u : Unit) => ∃ r : Int32, v = .int r) (fun _ H => H = h0)) 0 0 (xA E) := by
  refine x_enter (by decide) (Nat.le_of_ble_eq_true rfl) ?_
  intro p e s m args below meth c Q S hr hlk hnm hQ hP ls hl
  obtain ⟨⟨hz, hK, hT⟩, hh⟩ := hP
  obtain ⟨hx, hb, -, -, -⟩ := id S
  have hS : va_S (xA E) s.heap s.heap [] := va_S.rf
  have hl : lv_has ls 2 [(0, .ref a), (1, .int p0)] := hl
  refine lv_aload_n hx hb dX10_letter_0 rfl (lv_at hl 0 rfl) ?_
  obtain ⟨hk1, hj1⟩ := fkX10_14 hT ha
  refine gX10_14 S hK hT ha kf_X10_91 dX10_letter_1 (fun _ _ => ?_)
  refine lv_iload_n hx hb dX10_letter_4 rfl (lv_at hl 1 rfl) ?_
  refine x_clp (x_runV (b := (F a 14)) (As := [.int p0]) (rest := []) S (c_X9_signAt l E K F G s.heap (F a 14) p0 hk1) mv_X9_signAt km_X10_349 rfl rfl ⟨Nat.le_of_ble_eq_true rfl, Nat.le_of_ble_eq_true rfl⟩ (rc_11 hK hT hk1) hK (fun _ => XPh.blind) (fun U hU hW => XPh.at hK hz hS hT hU hW) rfl hl.1 (Nat.le_of_ble_eq_true rfl) dX10_letter_5 ⟨Nat.le_of_ble_eq_true rfl, Nat.le_of_ble_eq_true rfl⟩) hS ?_
  rintro _ _ locs ⟨x5, rfl⟩ hS
  exact x_ri hx hb hr hlk hQ (Nat.le_of_ble_eq_true rfl) (Nat.le_of_ble_eq_true rfl) hS dX10_letter_8 () ⟨_, rfl⟩ hh

theorem z_X10_wouldCut_1 (a0 : Int) (a1 : Int) (a2 : Int) (a3 : Int) (h0 : ¬ (0 ≤ a0 ∧ a0 < 3 ∧ 0 ≤ a1 ∧ a1 < 30) → a3 = -2000) (h1 : (a2 = 1 ∧ a3 ≠ -2000) ∨ (a2 = 0 ∧ a3 = -2000)) (h2 : a2 ≠ 0) : 0 ≤ a0 ∧ a0 < 3 ∧ 0 ≤ a1 ∧ a1 < 30 := by omega
theorem z_X10_wouldCut_2 (a0 : Int) (a1 : Int) (a2 : Int) (h0 : (a0 = 1 ∧ a1 ≠ -2000) ∨ (a0 = 0 ∧ a1 = -2000)) (h1 : a0 ≠ 0) (h2 : a2 = a1) : a2 ≠ -2000 := by omega
theorem z_X10_wouldCut_3 (a0 : Int) : (a0 < 0 ∨ 2 < a0) ∨ (a0 = 0) ∨ (a0 = 1) ∨ (a0 = 2) := by omega
theorem z_X10_wouldCut_4 (a0 : Int) (a1 : Int) (a2 : Int) (a3 : Int) (a4 : Int) (h0 : a0 = a3 ∧ (0 ≤ a0 ∧ a0 ≤ 90)) (h1 : a1 = a4 ∧ (0 ≤ a1 ∧ a1 ≤ 90)) (h2 : a2 = (a0 - a1) ∨ (a0 - a1) < -2147483648 ∨ 2147483648 ≤ (a0 - a1)) : a2 = (a0 - a1) := by omega
abbrev rm_X10_wouldCut : Room := { frames := 7, cells := 0, slots := 0, locals := 170 }
set_option maxHeartbeats 4000000 in
set_option maxRecDepth 100000 in
theorem c_X10_wouldCut (l : Launch) (E : XE) (K : Nat → Nat) (F : Nat → Nat → Nat) (G : XG) (a : Nat) (p0 : Int32) (p1 : Int32) (p2 : Int32) (ha : K a = 12) (sb : 0 ≤ ((G.1 (F a 2) 2).toInt) ∧ ((G.1 (F a 2) 2).toInt) ≤ 12) (ron : RO (vw (G.2.1 (F (F a 3) 0))) (aI (G.2.1 (F (F a 3) 1)))) (bko : BKr K G (G.2.2.1 (F (F a 2) 1))) (bkn : BKr K G (G.2.2.1 (F (F a 2) 0))) (hac : ACo G (G.2.2.1 (F (F a 2) 0))) : Met l yX10_wouldCut (xw yX10_wouldCut cX10_wouldCut 4 (some .int)) rm_X10_wouldCut (va_Pc [.ref a, .int p0, .int p1, .int p2] (XP E K F G)) (XQ E (fun v (u : XG) => ∃ r : Int32, v = .int r ∧ XFr [(F a 11, 3), (F a 9, 6), (F a 12, 4)] [F (F a 11) 0, F (F a 11) 1, F (F a 11) 2, F (F a 9) 0, F (F a 9) 1, F (F a 9) 2, F (F a 9) 3, F (F a 9) 4, F (F a 9) 5, F (F a 5) 0, F (F a 5) 1, F (F a 12) 0, F (F a 12) 1, F (F a 12) 2, F (F a 12) 3] [] G u ∧ ((cel (vw (G.2.1 (F (F a 3) 0))) p0.toInt p1.toInt 0 = -2000 ∧ r.toInt = -1) ∨ (cel (vw (G.2.1 (F (F a 3) 0))) p0.toInt p1.toInt 0 ≠ -2000 ∧ ((p2.toInt = 0 ∧ ∃ b : Int → Int, RO (cfin (clsA G (G.2.2.1 (F (F a 2) 0))) (clsT G (G.2.2.1 (F (F a 2) 0))) (clsC G (G.2.2.1 (F (F a 2) 0))) ([(p0.toInt, p1.toInt, 0, 0)], rfil (vw (G.2.1 (F (F a 3) 0))) p0.toInt p1.toInt (-2000) 3)) b ∧ r.toInt = toB (aI (G.2.1 (F (F a 3) 1))) 3 - toB b 3) ∨ (p2.toInt = 1 ∧ r.toInt = bsI (nn1 (cfin (clsA G (G.2.2.1 (F (F a 2) 0))) (clsT G (G.2.2.1 (F (F a 2) 0))) (clsC G (G.2.2.1 (F (F a 2) 0))) ([(p0.toInt, p1.toInt, 0, 0)], rfil (vw (G.2.1 (F (F a 3) 0))) p0.toInt p1.toInt (-2000) 3)) (vw (G.2.1 (F (F a 3) 0)))) 270) ∨ (p2.toInt = 2 ∧ AnsR ((G.1 a 18).toInt) r.toInt (gaL G (G.2.2.1 (F (F a 2) 1)) (vw (G.2.1 (F (F a 3) 0))) (cfin (clsA G (G.2.2.1 (F (F a 2) 0))) (clsT G (G.2.2.1 (F (F a 2) 0))) (clsC G (G.2.2.1 (F (F a 2) 0))) ([(p0.toInt, p1.toInt, 0, 0)], rfil (vw (G.2.1 (F (F a 3) 0))) p0.toInt p1.toInt (-2000) 3)) 0 (((G.1 (F a 2) 2).toInt)).toNat)) ∨ ((p2.toInt < 0 ∨ 2 < p2.toInt) ∧ r.toInt = -1))))) (fun u H => TW E K F u H)) 0 0 (xA E) := by
  refine x_enter (by decide) (Nat.le_of_ble_eq_true rfl) ?_
  intro p e s m args below meth c Q S hr hlk hnm hQ hP ls hl
  obtain ⟨hz, hK, hT⟩ := hP
  obtain ⟨hx, hb, -, -, -⟩ := id S
  obtain ⟨H, hT, hS, hgo⟩ : ∃ H : Heap, TW E K F G H ∧ va_S (xA E) s.heap H [] ∧ H = s.heap := ⟨_, hT, va_S.rf, rfl⟩
  rw [← hgo]
  have hl : lv_has ls 4 [(0, .ref a), (1, .int p0), (2, .int p1), (3, .int p2)] := hl
  obtain ⟨hk9999, hj9999⟩ := fkX10_11 hT ha
  obtain ⟨hk9999a, hj9999a⟩ := fkX10_9 hT ha
  obtain ⟨hk9999b, hj9999b⟩ := fkX10_12 hT ha
  obtain ⟨hk9999c, hj9999c⟩ := fkX1_0 hT hk9999
  obtain ⟨hk9999d, hj9999d⟩ := fkX1_1 hT hk9999
  obtain ⟨hk9999e, hj9999e⟩ := fkX1_2 hT hk9999
  obtain ⟨hk9999f, hj9999f⟩ := fkX4_0 hT hk9999a
  have hj9999g : F (F (F a 9) 0) 99 = 10 * 1 + 0 := by rw [hj9999f, hj9999a]
  obtain ⟨hk9999g, hj9999h⟩ := fkX4_1 hT hk9999a
  have hj9999i : F (F (F a 9) 1) 99 = 10 * 1 + 1 := by rw [hj9999h, hj9999a]
  obtain ⟨hk9999h, hj9999j⟩ := fkX4_2 hT hk9999a
  have hj9999k : F (F (F a 9) 2) 99 = 10 * 1 + 2 := by rw [hj9999j, hj9999a]
  obtain ⟨hk9999i, hj9999l⟩ := fkX4_3 hT hk9999a
  have hj9999m : F (F (F a 9) 3) 99 = 10 * 1 + 3 := by rw [hj9999l, hj9999a]
  obtain ⟨hk9999j, hj9999n⟩ := fkX4_4 hT hk9999a
  have hj9999o : F (F (F a 9) 4) 99 = 10 * 1 + 4 := by rw [hj9999n, hj9999a]
  obtain ⟨hk9999k, hj9999p⟩ := fkX4_5 hT hk9999a
  have hj9999q : F (F (F a 9) 5) 99 = 10 * 1 + 5 := by rw [hj9999p, hj9999a]
  obtain ⟨hk9999l, hj9999r⟩ := fkX10_5 hT ha
  obtain ⟨hk9999m, hj9999s⟩ := fkX6_0 hT hk9999l
  have hj9999t : F (F (F a 5) 0) 99 = 2 := by rw [hj9999s, hj9999r]
  obtain ⟨hk9999n, hj9999u⟩ := fkX6_1 hT hk9999l
  have hj9999v : F (F (F a 5) 1) 99 = 2 := by rw [hj9999u, hj9999r]
  obtain ⟨hk9999o, hj9999w⟩ := fkX2_0 hT hk9999b
  obtain ⟨hk9999p, hj9999y⟩ := fkX2_1 hT hk9999b
  obtain ⟨hk9999q, hj9999z25⟩ := fkX2_2 hT hk9999b
  obtain ⟨hk9999r, hj9999z26⟩ := fkX2_3 hT hk9999b
  obtain ⟨hk9999s, hj9999z27⟩ := fkX10_2 hT ha
  obtain ⟨hk9999t, hj9999z28⟩ := fkX0_1 hT hk9999s
  obtain ⟨hk9999u, hj9999z29⟩ := fkX0_0 hT hk9999s
  obtain ⟨hk9999v, hj9999z30⟩ := fkX10_3 hT ha
  obtain ⟨hk9999w, hj9999z31⟩ := fkX6_0 hT hk9999v
  have hj9999z32 : F (F (F a 3) 0) 99 = 0 := by rw [hj9999z31, hj9999z30]
  obtain ⟨hk9999y, hj9999z33⟩ := fkX6_1 hT hk9999v
  have hj9999z34 : F (F (F a 3) 1) 99 = 0 := by rw [hj9999z33, hj9999z30]
  refine lv_aload_n hx hb dX10_wouldCut_0 rfl (lv_at hl 0 rfl) ?_
  refine gX10_3 S hK hT ha kf_X10_37 dX10_wouldCut_1 (fun _ _ => ?_)
  refine lv_iload_n hx hb dX10_wouldCut_4 rfl (lv_at hl 1 rfl) ?_
  have z5 : ¬ (0 ≤ p0.toInt ∧ p0.toInt < 3 ∧ 0 ≤ p1.toInt ∧ p1.toInt < 30) → (cel (vw (G.2.1 (F (F a 3) 0))) (p0.toInt) (p1.toInt) 0) = -2000 := fun h9 => cel_out (by omega)
  refine lv_iload_n hx hb dX10_wouldCut_5 rfl (lv_at hl 2 rfl) ?_
  refine x_clp (x_runV (b := (F a 3)) (As := [.int p0, .int p1]) (rest := []) S (c_X6_has l E K F G H (F a 3) p0 p1 hk9999v (v_X10_wouldCut_6_1 (F := F) a G ron)) mv_X6_has km_X10_191 rfl rfl ⟨Nat.le_of_ble_eq_true rfl, Nat.le_of_ble_eq_true rfl⟩ (rc_8 hK hT hk9999v) hK (fun _ => XPh.blind) (fun U hU hW => XPh.at hK hz hS hT hU hW) rfl hl.1 (Nat.le_of_ble_eq_true rfl) dX10_wouldCut_6 ⟨Nat.le_of_ble_eq_true rfl, Nat.le_of_ble_eq_true rfl⟩) hS ?_
  rintro _ _ locs ⟨x6, rfl, b6, t6⟩ hS
  have t6 : (x6.toInt = 1 ∧ (cel (vw (G.2.1 (F (F a 3) 0))) (p0.toInt) (p1.toInt) 0) ≠ -2000) ∨ (x6.toInt = 0 ∧ (cel (vw (G.2.1 (F (F a 3) 0))) (p0.toInt) (p1.toInt) 0) = -2000) := t6
  refine xi_zne (tgt := 14) hx hb (rfl : Int32.toInt x6 = x6.toInt) dX10_wouldCut_9 (by decide) (fun c9 => ?_) (fun c9 => ?_)
  · refine lv_aload_n hx hb dX10_wouldCut_14 rfl (lv_at hl 0 rfl) ?_
    refine gX10_5 S hK hT ha kf_X10_44 dX10_wouldCut_15 (fun _ _ => ?_)
    refine lv_aload_n hx hb dX10_wouldCut_18 rfl (lv_at hl 0 rfl) ?_
    refine gX10_3 S hK hT ha kf_X10_37 dX10_wouldCut_19 (fun _ _ => ?_)
    refine x_cv0 (x_runV (b := (F a 5)) (As := [.ref (F a 3)]) (rest := []) S (c_X6_copy l E K F G (F a 5) (F a 3) hk9999l hk9999v (v_X10_wouldCut_22_2 (F := F) a G ron)) mv_X6_copy km_X10_195 rfl rfl ⟨Nat.le_of_ble_eq_true rfl, Nat.le_of_ble_eq_true rfl⟩ (rc_8 hK hT hk9999l) hK (fun _ => XP.blind) (fun U hU hW => XP.at hK hz hS hT hU hW) rfl hl.1 (Nat.le_of_ble_eq_true rfl) dX10_wouldCut_22 ⟨Nat.le_of_ble_eq_true rfl, Nat.le_of_ble_eq_true rfl⟩) hS ?_
    rintro G22 H locs ⟨hF22, oq22, oq22a⟩ hT hS
    have z25 : (cel (vw (G22.2.1 (F (F a 5) 0))) (p0.toInt) (p1.toInt) 0) = (cel (vw (G.2.1 (F (F a 3) 0))) (p0.toInt) (p1.toInt) 0) := by rw [oq22]
    refine lv_aload_n hx hb dX10_wouldCut_25 rfl (lv_at hl 0 rfl) ?_
    refine gX10_12 S hK hT ha kf_X10_77 dX10_wouldCut_26 (fun _ _ => ?_)
    refine lv_aload_n hx hb dX10_wouldCut_29 rfl (lv_at hl 0 rfl) ?_
    refine gX10_5 S hK hT ha kf_X10_44 dX10_wouldCut_30 (fun _ _ => ?_)
    refine lv_aload_n hx hb dX10_wouldCut_33 rfl (lv_at hl 0 rfl) ?_
    refine gX10_2 S hK hT ha kf_X10_30 dX10_wouldCut_34 (fun _ _ => ?_)
    refine lv_iload_n hx hb dX10_wouldCut_37 rfl (lv_at hl 1 rfl) ?_
    refine lv_iload_n hx hb dX10_wouldCut_38 rfl (lv_at hl 2 rfl) ?_
    refine x_cv0 (x_runV (b := (F a 12)) (As := [.ref (F a 5), .ref (F a 2), .int p0, .int p1]) (rest := []) S (c_X2_cutRow l E K F G22 (F a 12) (F a 5) (F a 2) p0 p1 hk9999b hk9999l hk9999s (z_X10_wouldCut_1 p0.toInt p1.toInt x6.toInt (cel (vw (G.2.1 (F (F a 3) 0))) (p0.toInt) (p1.toInt) 0) z5 t6 c9) (z_X10_wouldCut_2 x6.toInt (cel (vw (G.2.1 (F (F a 3) 0))) (p0.toInt) (p1.toInt) 0) (cel (vw (G22.2.1 (F (F a 5) 0))) (p0.toInt) (p1.toInt) 0) t6 c9 z25) (v_X10_wouldCut_39_3 (F := F) G22 a oq22a) (v_X10_wouldCut_39_4 (K := K) (F := F) a G G22 p0 p1 x6 ha hk9999 hj9999 hk9999a hj9999a hk9999b hj9999b hk9999c hj9999c hk9999d hj9999d hk9999e hj9999e hk9999f hj9999g hk9999g hj9999i hk9999h hj9999k hk9999i hj9999m hk9999j hj9999o hk9999k hj9999q hk9999l hj9999r hk9999m hj9999t hk9999n hj9999v hk9999o hj9999w hk9999p hj9999y hk9999q hj9999z25 hk9999r hj9999z26 hk9999s hj9999z27 hk9999t hj9999z28 hk9999u hj9999z29 hk9999v hj9999z30 hk9999w hj9999z32 hk9999y hj9999z34 (XFr.call XFr.rf hF22 xm0 (xm1 9 rfl (xm1 10 rfl xm0)) xm0) hF22 ron bko bkn hac oq22 oq22a sb z5 t6 c9 z25 (hF22.2.1 _ (xn1 (xne_k hk9999c hk9999m (by decide)) (xn1 (xne_j hj9999c hj9999v (by first | decide | omega)) xn0))) (hF22.2.1 _ (xn1 (xne_k hk9999d hk9999m (by decide)) (xn1 (xne_j hj9999d hj9999v (by first | decide | omega)) xn0))) (hF22.2.1 _ (xn1 (xne_k hk9999e hk9999m (by decide)) (xn1 (xne_k hk9999e hk9999n (by decide)) xn0))) (hF22.2.1 _ (xn1 (xne_k hk9999o hk9999m (by decide)) (xn1 (xne_k hk9999o hk9999n (by decide)) xn0))) (hF22.2.1 _ (xn1 (xne_k hk9999p hk9999m (by decide)) (xn1 (xne_k hk9999p hk9999n (by decide)) xn0))) (hF22.2.1 _ (xn1 (xne_k hk9999q hk9999m (by decide)) (xn1 (xne_k hk9999q hk9999n (by decide)) xn0))) (hF22.2.1 _ (xn1 (xne_k hk9999r hk9999m (by decide)) (xn1 (xne_k hk9999r hk9999n (by decide)) xn0))) (hF22.2.1 _ (xn1 (xne_k hk9999f hk9999m (by decide)) (xn1 (xne_k hk9999f hk9999n (by decide)) xn0))) (hF22.2.1 _ (xn1 (xne_k hk9999g hk9999m (by decide)) (xn1 (xne_k hk9999g hk9999n (by decide)) xn0))) (hF22.2.1 _ (xn1 (xne_k hk9999h hk9999m (by decide)) (xn1 (xne_k hk9999h hk9999n (by decide)) xn0))) (hF22.2.1 _ (xn1 (xne_k hk9999i hk9999m (by decide)) (xn1 (xne_k hk9999i hk9999n (by decide)) xn0))) (hF22.2.1 _ (xn1 (xne_k hk9999j hk9999m (by decide)) (xn1 (xne_k hk9999j hk9999n (by decide)) xn0))) (hF22.2.1 _ (xn1 (xne_k hk9999k hk9999m (by decide)) (xn1 (xne_k hk9999k hk9999n (by decide)) xn0))) (hF22.2.2 _ xn0) (hF22.1 _ _ xn0) (hF22.1 _ _ xn0) (hF22.1 _ _ xn0)) (v_X10_wouldCut_39_5 (K := K) (F := F) a G G22 p0 p1 x6 ha hk9999 hj9999 hk9999a hj9999a hk9999b hj9999b hk9999c hj9999c hk9999d hj9999d hk9999e hj9999e hk9999f hj9999g hk9999g hj9999i hk9999h hj9999k hk9999i hj9999m hk9999j hj9999o hk9999k hj9999q hk9999l hj9999r hk9999m hj9999t hk9999n hj9999v hk9999o hj9999w hk9999p hj9999y hk9999q hj9999z25 hk9999r hj9999z26 hk9999s hj9999z27 hk9999t hj9999z28 hk9999u hj9999z29 hk9999v hj9999z30 hk9999w hj9999z32 hk9999y hj9999z34 (XFr.call XFr.rf hF22 xm0 (xm1 9 rfl (xm1 10 rfl xm0)) xm0) hF22 ron bko bkn hac oq22 oq22a sb z5 t6 c9 z25 (hF22.2.1 _ (xn1 (xne_k hk9999c hk9999m (by decide)) (xn1 (xne_j hj9999c hj9999v (by first | decide | omega)) xn0))) (hF22.2.1 _ (xn1 (xne_k hk9999d hk9999m (by decide)) (xn1 (xne_j hj9999d hj9999v (by first | decide | omega)) xn0))) (hF22.2.1 _ (xn1 (xne_k hk9999e hk9999m (by decide)) (xn1 (xne_k hk9999e hk9999n (by decide)) xn0))) (hF22.2.1 _ (xn1 (xne_k hk9999o hk9999m (by decide)) (xn1 (xne_k hk9999o hk9999n (by decide)) xn0))) (hF22.2.1 _ (xn1 (xne_k hk9999p hk9999m (by decide)) (xn1 (xne_k hk9999p hk9999n (by decide)) xn0))) (hF22.2.1 _ (xn1 (xne_k hk9999q hk9999m (by decide)) (xn1 (xne_k hk9999q hk9999n (by decide)) xn0))) (hF22.2.1 _ (xn1 (xne_k hk9999r hk9999m (by decide)) (xn1 (xne_k hk9999r hk9999n (by decide)) xn0))) (hF22.2.1 _ (xn1 (xne_k hk9999f hk9999m (by decide)) (xn1 (xne_k hk9999f hk9999n (by decide)) xn0))) (hF22.2.1 _ (xn1 (xne_k hk9999g hk9999m (by decide)) (xn1 (xne_k hk9999g hk9999n (by decide)) xn0))) (hF22.2.1 _ (xn1 (xne_k hk9999h hk9999m (by decide)) (xn1 (xne_k hk9999h hk9999n (by decide)) xn0))) (hF22.2.1 _ (xn1 (xne_k hk9999i hk9999m (by decide)) (xn1 (xne_k hk9999i hk9999n (by decide)) xn0))) (hF22.2.1 _ (xn1 (xne_k hk9999j hk9999m (by decide)) (xn1 (xne_k hk9999j hk9999n (by decide)) xn0))) (hF22.2.1 _ (xn1 (xne_k hk9999k hk9999m (by decide)) (xn1 (xne_k hk9999k hk9999n (by decide)) xn0))) (hF22.2.2 _ xn0) (hF22.1 _ _ xn0) (hF22.1 _ _ xn0) (hF22.1 _ _ xn0))) mv_X2_cutRow km_X10_214 rfl rfl ⟨Nat.le_of_ble_eq_true rfl, Nat.le_of_ble_eq_true rfl⟩ (rc_4 hK hT hk9999b) hK (fun _ => XP.blind) (fun U hU hW => XP.at hK hz hS hT hU hW) rfl hl.1 (Nat.le_of_ble_eq_true rfl) dX10_wouldCut_39 ⟨Nat.le_of_ble_eq_true rfl, Nat.le_of_ble_eq_true rfl⟩) hS ?_
    rintro G39 H locs ⟨hF39, oq39, oq39a⟩ hT hS
    refine lv_iload_n hx hb dX10_wouldCut_42 rfl (lv_at hl 3 rfl) ?_
    rcases ((z_X10_wouldCut_3 p2.toInt) : (p2.toInt < 0 ∨ 2 < p2.toInt) ∨ (p2.toInt = 0) ∨ (p2.toInt = 1) ∨ (p2.toInt = 2)) with c43 | c43 | c43 | c43
    · refine lv_tableOut (tgt := 101) hx hb dX10_wouldCut_43 c43 (by decide) ?_
      refine lv_iconst (v := (-1)) hx hb dX10_wouldCut_101 (by decide) ?_
      exact x_ri hx hb hr hlk hQ (Nat.le_of_ble_eq_true rfl) (Nat.le_of_ble_eq_true rfl) hS dX10_wouldCut_102 G39 ⟨_, rfl, (XFr.call (XFr.call XFr.rf hF22 xm0 (xm1 9 rfl (xm1 10 rfl xm0)) xm0) hF39 (xm1 2 rfl xm0) (xm1 11 rfl (xm1 12 rfl (xm1 13 rfl (xm1 14 rfl (xm1 9 rfl (xm1 10 rfl xm0)))))) xm0), (by rw [((by decide) : Int32.toInt (-1) = (-1 : Int))] <;> exact (v_X10_wouldCut_102_6 (K := K) (F := F) a G G22 p0 p1 x6 p2 ha sb z5 t6 c9 z25 c43))⟩ hT
    · refine lv_tableIn (off := 25) (tgt := 68) hx hb dX10_wouldCut_43 (by rw [c43]; decide) (by rw [c43]; decide) (by rw [c43]; rfl) (by decide) ?_
      refine lv_aload_n hx hb dX10_wouldCut_68 rfl (lv_at hl 0 rfl) ?_
      refine gX10_3 S hK hT ha kf_X10_37 dX10_wouldCut_69 (fun _ _ => ?_)
      refine x_clp (x_runV (b := (F a 3)) (As := []) (rest := []) S (c_X6_total l E K F G39 H (F a 3) hk9999v (v_X10_wouldCut_72_7 (F := F) a G G39 G22 ron oq22a oq39a ((hF39.2.1 _ (xn1 (xne_k hk9999w hk9999o (by decide)) (xn1 (xne_k hk9999w hk9999p (by decide)) (xn1 (xne_k hk9999w hk9999q (by decide)) (xn1 (xne_k hk9999w hk9999r (by decide)) (xn1 (xne_j hj9999z32 hj9999t (by first | decide | omega)) (xn1 (xne_k hk9999w hk9999n (by decide)) xn0))))))).trans (hF22.2.1 _ (xn1 (xne_j hj9999z32 hj9999t (by first | decide | omega)) (xn1 (xne_k hk9999w hk9999n (by decide)) xn0)))) ((hF39.2.1 _ (xn1 (xne_k hk9999y hk9999o (by decide)) (xn1 (xne_k hk9999y hk9999p (by decide)) (xn1 (xne_k hk9999y hk9999q (by decide)) (xn1 (xne_k hk9999y hk9999r (by decide)) (xn1 (xne_k hk9999y hk9999m (by decide)) (xn1 (xne_j hj9999z34 hj9999v (by first | decide | omega)) xn0))))))).trans (hF22.2.1 _ (xn1 (xne_k hk9999y hk9999m (by decide)) (xn1 (xne_j hj9999z34 hj9999v (by first | decide | omega)) xn0)))))) mv_X6_total km_X10_222 rfl rfl ⟨Nat.le_of_ble_eq_true rfl, Nat.le_of_ble_eq_true rfl⟩ (rc_8 hK hT hk9999v) hK (fun _ => XPh.blind) (fun U hU hW => XPh.at hK hz hS hT hU hW) rfl hl.1 (Nat.le_of_ble_eq_true rfl) dX10_wouldCut_72 ⟨Nat.le_of_ble_eq_true rfl, Nat.le_of_ble_eq_true rfl⟩) hS ?_
      rintro _ _ locs ⟨x72, rfl, t72⟩ hS
      have t72 : x72.toInt = (toB (aI (G.2.1 (F (F a 3) 1))) 3) ∧ (0 ≤ x72.toInt ∧ x72.toInt ≤ 90) := by rw [(show G39.2.1 (F (F a 3) 1) = G.2.1 (F (F a 3) 1) from ((hF39.2.1 _ (xn1 (xne_k hk9999y hk9999o (by decide)) (xn1 (xne_k hk9999y hk9999p (by decide)) (xn1 (xne_k hk9999y hk9999q (by decide)) (xn1 (xne_k hk9999y hk9999r (by decide)) (xn1 (xne_k hk9999y hk9999m (by decide)) (xn1 (xne_j hj9999z34 hj9999v (by first | decide | omega)) xn0))))))).trans (hF22.2.1 _ (xn1 (xne_k hk9999y hk9999m (by decide)) (xn1 (xne_j hj9999z34 hj9999v (by first | decide | omega)) xn0)))))] at t72; exact t72
      refine lv_aload_n hx hb dX10_wouldCut_75 rfl (lv_at hl 0 rfl) ?_
      refine gX10_5 S hK hT ha kf_X10_44 dX10_wouldCut_76 (fun _ _ => ?_)
      refine x_clp (x_runV (b := (F a 5)) (As := []) (rest := [.int x72]) S (c_X6_total l E K F G39 H (F a 5) hk9999l (v_X10_wouldCut_79_8 (F := F) G39 a oq39a)) mv_X6_total km_X10_222 rfl rfl ⟨Nat.le_of_ble_eq_true rfl, Nat.le_of_ble_eq_true rfl⟩ (rc_8 hK hT hk9999l) hK (fun _ => XPh.blind) (fun U hU hW => XPh.at hK hz hS hT hU hW) rfl hl.1 (Nat.le_of_ble_eq_true rfl) dX10_wouldCut_79 ⟨Nat.le_of_ble_eq_true rfl, Nat.le_of_ble_eq_true rfl⟩) hS ?_
      rintro _ _ locs ⟨x79, rfl, t79⟩ hS
      have t79 : x79.toInt = (toB (aI (G39.2.1 (F (F a 5) 1))) 3) ∧ (0 ≤ x79.toInt ∧ x79.toInt ≤ 90) := t79
      refine xi_isub hx hb (rfl : Int32.toInt x72 = x72.toInt) (rfl : Int32.toInt x79 = x79.toInt) dX10_wouldCut_82 (fun x82 t82 => ?_)
      have e82 : x82.toInt = (x72.toInt - x79.toInt) := (z_X10_wouldCut_4 x72.toInt x79.toInt x82.toInt (toB (aI (G.2.1 (F (F a 3) 1))) 3) (toB (aI (G39.2.1 (F (F a 5) 1))) 3) t72 t79 t82)
      exact x_ri hx hb hr hlk hQ (Nat.le_of_ble_eq_true rfl) (Nat.le_of_ble_eq_true rfl) hS dX10_wouldCut_83 G39 ⟨_, rfl, (XFr.call (XFr.call XFr.rf hF22 xm0 (xm1 9 rfl (xm1 10 rfl xm0)) xm0) hF39 (xm1 2 rfl xm0) (xm1 11 rfl (xm1 12 rfl (xm1 13 rfl (xm1 14 rfl (xm1 9 rfl (xm1 10 rfl xm0)))))) xm0), (by rw [(e82 : Int32.toInt x82 = (x72.toInt - x79.toInt))] <;> exact (v_X10_wouldCut_83_9 (K := K) (F := F) a G G39 G22 p0 p1 x72 x79 x6 p2 ha hk9999 hj9999 hk9999a hj9999a hk9999b hj9999b hk9999c hj9999c hk9999d hj9999d hk9999e hj9999e hk9999f hj9999g hk9999g hj9999i hk9999h hj9999k hk9999i hj9999m hk9999j hj9999o hk9999k hj9999q hk9999l hj9999r hk9999m hj9999t hk9999n hj9999v hk9999o hj9999w hk9999p hj9999y hk9999q hj9999z25 hk9999r hj9999z26 hk9999s hj9999z27 hk9999t hj9999z28 hk9999u hj9999z29 hk9999v hj9999z30 hk9999w hj9999z32 hk9999y hj9999z34 hF22 bkn oq22 oq39 oq39a sb z5 t6 c9 z25 c43 t72 t79 (hF22.2.2 _ xn0)))⟩ hT
    · refine lv_tableIn (off := 41) (tgt := 84) hx hb dX10_wouldCut_43 (by rw [c43]; decide) (by rw [c43]; decide) (by rw [c43]; rfl) (by decide) ?_
      refine lv_aload_n hx hb dX10_wouldCut_84 rfl (lv_at hl 0 rfl) ?_
      refine gX10_5 S hK hT ha kf_X10_44 dX10_wouldCut_85 (fun _ _ => ?_)
      refine lv_aload_n hx hb dX10_wouldCut_88 rfl (lv_at hl 0 rfl) ?_
      refine gX10_3 S hK hT ha kf_X10_37 dX10_wouldCut_89 (fun _ _ => ?_)
      refine x_clp (x_runV (b := (F a 5)) (As := [.ref (F a 3)]) (rest := []) S (c_X6_newNulls l E K F G39 H (F a 5) (F a 3) hk9999l hk9999v) mv_X6_newNulls km_X10_355 rfl rfl ⟨Nat.le_of_ble_eq_true rfl, Nat.le_of_ble_eq_true rfl⟩ (rc_8 hK hT hk9999l) hK (fun _ => XPh.blind) (fun U hU hW => XPh.at hK hz hS hT hU hW) rfl hl.1 (Nat.le_of_ble_eq_true rfl) dX10_wouldCut_92 ⟨Nat.le_of_ble_eq_true rfl, Nat.le_of_ble_eq_true rfl⟩) hS ?_
      rintro _ _ locs ⟨x92, rfl, t92⟩ hS
      have t92 : x92.toInt = (bsI (nn1 (vw (G39.2.1 (F (F a 5) 0))) (vw (G.2.1 (F (F a 3) 0)))) 270) := by rw [(show G39.2.1 (F (F a 3) 0) = G.2.1 (F (F a 3) 0) from ((hF39.2.1 _ (xn1 (xne_k hk9999w hk9999o (by decide)) (xn1 (xne_k hk9999w hk9999p (by decide)) (xn1 (xne_k hk9999w hk9999q (by decide)) (xn1 (xne_k hk9999w hk9999r (by decide)) (xn1 (xne_j hj9999z32 hj9999t (by first | decide | omega)) (xn1 (xne_k hk9999w hk9999n (by decide)) xn0))))))).trans (hF22.2.1 _ (xn1 (xne_j hj9999z32 hj9999t (by first | decide | omega)) (xn1 (xne_k hk9999w hk9999n (by decide)) xn0)))))] at t92; exact t92
      exact x_ri hx hb hr hlk hQ (Nat.le_of_ble_eq_true rfl) (Nat.le_of_ble_eq_true rfl) hS dX10_wouldCut_95 G39 ⟨_, rfl, (XFr.call (XFr.call XFr.rf hF22 xm0 (xm1 9 rfl (xm1 10 rfl xm0)) xm0) hF39 (xm1 2 rfl xm0) (xm1 11 rfl (xm1 12 rfl (xm1 13 rfl (xm1 14 rfl (xm1 9 rfl (xm1 10 rfl xm0)))))) xm0), (by rw [(t92 : Int32.toInt x92 = (bsI (nn1 (vw (G39.2.1 (F (F a 5) 0))) (vw (G.2.1 (F (F a 3) 0)))) 270))] <;> exact (v_X10_wouldCut_95_10 (K := K) (F := F) a G G39 G22 p0 p1 x6 p2 ha hk9999 hj9999 hk9999a hj9999a hk9999b hj9999b hk9999c hj9999c hk9999d hj9999d hk9999e hj9999e hk9999f hj9999g hk9999g hj9999i hk9999h hj9999k hk9999i hj9999m hk9999j hj9999o hk9999k hj9999q hk9999l hj9999r hk9999m hj9999t hk9999n hj9999v hk9999o hj9999w hk9999p hj9999y hk9999q hj9999z25 hk9999r hj9999z26 hk9999s hj9999z27 hk9999t hj9999z28 hk9999u hj9999z29 hk9999v hj9999z30 hk9999w hj9999z32 hk9999y hj9999z34 hF22 bkn oq22 oq39 sb z5 t6 c9 z25 c43 (hF22.2.2 _ xn0)))⟩ hT
    · refine lv_tableIn (off := 53) (tgt := 96) hx hb dX10_wouldCut_43 (by rw [c43]; decide) (by rw [c43]; decide) (by rw [c43]; rfl) (by decide) ?_
      refine lv_aload_n hx hb dX10_wouldCut_96 rfl (lv_at hl 0 rfl) ?_
      refine x_cl0 (x_runV (b := a) (As := []) (rest := []) S (c_X10_answerOnPaper l E K F G39 a ha (by rw [(show (G39.1 (F a 2) 2).toInt = ((G.1 (F a 2) 2).toInt) from (congrArg Int32.toInt ((hF39.1 _ _ (xnj (by decide) xn0)).trans (hF22.1 _ _ xn0))).trans (rfl : Int32.toInt (G.1 (F a 2) 2) = ((G.1 (F a 2) 2).toInt)))] <;> exact (sb)) (v_X10_wouldCut_97_11 (F := F) a G G39 G22 ron oq22a oq39a ((hF39.2.1 _ (xn1 (xne_k hk9999w hk9999o (by decide)) (xn1 (xne_k hk9999w hk9999p (by decide)) (xn1 (xne_k hk9999w hk9999q (by decide)) (xn1 (xne_k hk9999w hk9999r (by decide)) (xn1 (xne_j hj9999z32 hj9999t (by first | decide | omega)) (xn1 (xne_k hk9999w hk9999n (by decide)) xn0))))))).trans (hF22.2.1 _ (xn1 (xne_j hj9999z32 hj9999t (by first | decide | omega)) (xn1 (xne_k hk9999w hk9999n (by decide)) xn0)))) ((hF39.2.1 _ (xn1 (xne_k hk9999y hk9999o (by decide)) (xn1 (xne_k hk9999y hk9999p (by decide)) (xn1 (xne_k hk9999y hk9999q (by decide)) (xn1 (xne_k hk9999y hk9999r (by decide)) (xn1 (xne_k hk9999y hk9999m (by decide)) (xn1 (xne_j hj9999z34 hj9999v (by first | decide | omega)) xn0))))))).trans (hF22.2.1 _ (xn1 (xne_k hk9999y hk9999m (by decide)) (xn1 (xne_j hj9999z34 hj9999v (by first | decide | omega)) xn0))))) (v_X10_wouldCut_97_12 (F := F) G39 a oq39a) (v_X10_wouldCut_97_13 (K := K) (F := F) a G G39 G22 p0 p1 x6 p2 ha hk9999 hj9999 hk9999a hj9999a hk9999b hj9999b hk9999c hj9999c hk9999d hj9999d hk9999e hj9999e hk9999f hj9999g hk9999g hj9999i hk9999h hj9999k hk9999i hj9999m hk9999j hj9999o hk9999k hj9999q hk9999l hj9999r hk9999m hj9999t hk9999n hj9999v hk9999o hj9999w hk9999p hj9999y hk9999q hj9999z25 hk9999r hj9999z26 hk9999s hj9999z27 hk9999t hj9999z28 hk9999u hj9999z29 hk9999v hj9999z30 hk9999w hj9999z32 hk9999y hj9999z34 (XFr.call (XFr.call XFr.rf hF22 xm0 (xm1 9 rfl (xm1 10 rfl xm0)) xm0) hF39 (xm1 2 rfl xm0) (xm1 11 rfl (xm1 12 rfl (xm1 13 rfl (xm1 14 rfl (xm1 9 rfl (xm1 10 rfl xm0)))))) xm0) hF22 hF39 ron bko bkn hac oq22 oq22a oq39 oq39a sb z5 t6 c9 z25 c43 ((hF39.2.1 _ (xn1 (xne_k hk9999c hk9999o (by decide)) (xn1 (xne_k hk9999c hk9999p (by decide)) (xn1 (xne_k hk9999c hk9999q (by decide)) (xn1 (xne_k hk9999c hk9999r (by decide)) (xn1 (xne_k hk9999c hk9999m (by decide)) (xn1 (xne_j hj9999c hj9999v (by first | decide | omega)) xn0))))))).trans (hF22.2.1 _ (xn1 (xne_k hk9999c hk9999m (by decide)) (xn1 (xne_j hj9999c hj9999v (by first | decide | omega)) xn0)))) ((hF39.2.1 _ (xn1 (xne_k hk9999d hk9999o (by decide)) (xn1 (xne_k hk9999d hk9999p (by decide)) (xn1 (xne_k hk9999d hk9999q (by decide)) (xn1 (xne_k hk9999d hk9999r (by decide)) (xn1 (xne_k hk9999d hk9999m (by decide)) (xn1 (xne_j hj9999d hj9999v (by first | decide | omega)) xn0))))))).trans (hF22.2.1 _ (xn1 (xne_k hk9999d hk9999m (by decide)) (xn1 (xne_j hj9999d hj9999v (by first | decide | omega)) xn0)))) ((hF39.2.1 _ (xn1 (xne_j hj9999e hj9999w (by first | decide | omega)) (xn1 (xne_j hj9999e hj9999y (by first | decide | omega)) (xn1 (xne_j hj9999e hj9999z25 (by first | decide | omega)) (xn1 (xne_j hj9999e hj9999z26 (by first | decide | omega)) (xn1 (xne_k hk9999e hk9999m (by decide)) (xn1 (xne_k hk9999e hk9999n (by decide)) xn0))))))).trans (hF22.2.1 _ (xn1 (xne_k hk9999e hk9999m (by decide)) (xn1 (xne_k hk9999e hk9999n (by decide)) xn0)))) ((hF39.2.1 _ (xn1 (xne_k hk9999f hk9999o (by decide)) (xn1 (xne_k hk9999f hk9999p (by decide)) (xn1 (xne_k hk9999f hk9999q (by decide)) (xn1 (xne_k hk9999f hk9999r (by decide)) (xn1 (xne_k hk9999f hk9999m (by decide)) (xn1 (xne_k hk9999f hk9999n (by decide)) xn0))))))).trans (hF22.2.1 _ (xn1 (xne_k hk9999f hk9999m (by decide)) (xn1 (xne_k hk9999f hk9999n (by decide)) xn0)))) ((hF39.2.1 _ (xn1 (xne_k hk9999g hk9999o (by decide)) (xn1 (xne_k hk9999g hk9999p (by decide)) (xn1 (xne_k hk9999g hk9999q (by decide)) (xn1 (xne_k hk9999g hk9999r (by decide)) (xn1 (xne_k hk9999g hk9999m (by decide)) (xn1 (xne_k hk9999g hk9999n (by decide)) xn0))))))).trans (hF22.2.1 _ (xn1 (xne_k hk9999g hk9999m (by decide)) (xn1 (xne_k hk9999g hk9999n (by decide)) xn0)))) ((hF39.2.1 _ (xn1 (xne_k hk9999h hk9999o (by decide)) (xn1 (xne_k hk9999h hk9999p (by decide)) (xn1 (xne_k hk9999h hk9999q (by decide)) (xn1 (xne_k hk9999h hk9999r (by decide)) (xn1 (xne_k hk9999h hk9999m (by decide)) (xn1 (xne_k hk9999h hk9999n (by decide)) xn0))))))).trans (hF22.2.1 _ (xn1 (xne_k hk9999h hk9999m (by decide)) (xn1 (xne_k hk9999h hk9999n (by decide)) xn0)))) ((hF39.2.1 _ (xn1 (xne_k hk9999i hk9999o (by decide)) (xn1 (xne_k hk9999i hk9999p (by decide)) (xn1 (xne_k hk9999i hk9999q (by decide)) (xn1 (xne_k hk9999i hk9999r (by decide)) (xn1 (xne_k hk9999i hk9999m (by decide)) (xn1 (xne_k hk9999i hk9999n (by decide)) xn0))))))).trans (hF22.2.1 _ (xn1 (xne_k hk9999i hk9999m (by decide)) (xn1 (xne_k hk9999i hk9999n (by decide)) xn0)))) ((hF39.2.1 _ (xn1 (xne_k hk9999j hk9999o (by decide)) (xn1 (xne_k hk9999j hk9999p (by decide)) (xn1 (xne_k hk9999j hk9999q (by decide)) (xn1 (xne_k hk9999j hk9999r (by decide)) (xn1 (xne_k hk9999j hk9999m (by decide)) (xn1 (xne_k hk9999j hk9999n (by decide)) xn0))))))).trans (hF22.2.1 _ (xn1 (xne_k hk9999j hk9999m (by decide)) (xn1 (xne_k hk9999j hk9999n (by decide)) xn0)))) ((hF39.2.1 _ (xn1 (xne_k hk9999k hk9999o (by decide)) (xn1 (xne_k hk9999k hk9999p (by decide)) (xn1 (xne_k hk9999k hk9999q (by decide)) (xn1 (xne_k hk9999k hk9999r (by decide)) (xn1 (xne_k hk9999k hk9999m (by decide)) (xn1 (xne_k hk9999k hk9999n (by decide)) xn0))))))).trans (hF22.2.1 _ (xn1 (xne_k hk9999k hk9999m (by decide)) (xn1 (xne_k hk9999k hk9999n (by decide)) xn0)))) (hF22.2.2 _ xn0) ((hF39.2.2 _ xn0).trans (hF22.2.2 _ xn0)) ((hF39.1 _ _ (xnj (by decide) xn0)).trans (hF22.1 _ _ xn0)) ((hF39.1 _ _ (xnj (by decide) xn0)).trans (hF22.1 _ _ xn0)))) mv_X10_answerOnPaper km_X10_352 rfl rfl ⟨Nat.le_of_ble_eq_true rfl, Nat.le_of_ble_eq_true rfl⟩ (rc_12 hK hT ha) hK (fun _ => XP.blind) (fun U hU hW => XP.at hK hz hS hT hU hW) rfl hl.1 (Nat.le_of_ble_eq_true rfl) dX10_wouldCut_97 ⟨Nat.le_of_ble_eq_true rfl, Nat.le_of_ble_eq_true rfl⟩) hS ?_
      rintro _ G97 H locs ⟨x97, rfl, hF97, oq97⟩ hT hS
      have oq97 : AnsR ((G.1 a 18).toInt) x97.toInt (gaL G39 (G39.2.2.1 (F (F a 2) 1)) (vw (G.2.1 (F (F a 3) 0))) (vw (G39.2.1 (F (F a 5) 0))) 0 (((G.1 (F a 2) 2).toInt)).toNat) := by simp only [(show G39.1 a 18 = G.1 a 18 from ((hF39.1 _ _ (xnj (by decide) xn0)).trans (hF22.1 _ _ xn0))), (show G39.2.1 (F (F a 3) 0) = G.2.1 (F (F a 3) 0) from ((hF39.2.1 _ (xn1 (xne_k hk9999w hk9999o (by decide)) (xn1 (xne_k hk9999w hk9999p (by decide)) (xn1 (xne_k hk9999w hk9999q (by decide)) (xn1 (xne_k hk9999w hk9999r (by decide)) (xn1 (xne_j hj9999z32 hj9999t (by first | decide | omega)) (xn1 (xne_k hk9999w hk9999n (by decide)) xn0))))))).trans (hF22.2.1 _ (xn1 (xne_j hj9999z32 hj9999t (by first | decide | omega)) (xn1 (xne_k hk9999w hk9999n (by decide)) xn0))))), (show G39.1 (F a 2) 2 = G.1 (F a 2) 2 from ((hF39.1 _ _ (xnj (by decide) xn0)).trans (hF22.1 _ _ xn0)))] at oq97; exact oq97
      exact x_ri hx hb hr hlk hQ (Nat.le_of_ble_eq_true rfl) (Nat.le_of_ble_eq_true rfl) hS dX10_wouldCut_100 G97 ⟨_, rfl, (XFr.call (XFr.call (XFr.call XFr.rf hF22 xm0 (xm1 9 rfl (xm1 10 rfl xm0)) xm0) hF39 (xm1 2 rfl xm0) (xm1 11 rfl (xm1 12 rfl (xm1 13 rfl (xm1 14 rfl (xm1 9 rfl (xm1 10 rfl xm0)))))) xm0) hF97 (xm1 0 rfl (xm1 1 rfl xm0)) (xm1 0 rfl (xm1 1 rfl (xm1 2 rfl (xm1 3 rfl (xm1 4 rfl (xm1 5 rfl (xm1 6 rfl (xm1 7 rfl (xm1 8 rfl xm0))))))))) xm0), (v_X10_wouldCut_100_14 (K := K) (F := F) a G G22 G39 p0 p1 x97 x6 p2 ha hk9999 hj9999 hk9999a hj9999a hk9999b hj9999b hk9999c hj9999c hk9999d hj9999d hk9999e hj9999e hk9999f hj9999g hk9999g hj9999i hk9999h hj9999k hk9999i hj9999m hk9999j hj9999o hk9999k hj9999q hk9999l hj9999r hk9999m hj9999t hk9999n hj9999v hk9999o hj9999w hk9999p hj9999y hk9999q hj9999z25 hk9999r hj9999z26 hk9999s hj9999z27 hk9999t hj9999z28 hk9999u hj9999z29 hk9999v hj9999z30 hk9999w hj9999z32 hk9999y hj9999z34 hF22 hF39 bko bkn oq22 oq39 oq97 sb z5 t6 c9 z25 c43 (hF22.2.2 _ xn0) ((hF39.2.2 _ xn0).trans (hF22.2.2 _ xn0)))⟩ hT
  · refine lv_iconst (v := (-1)) hx hb dX10_wouldCut_12 (by decide) ?_
    exact x_ri hx hb hr hlk hQ (Nat.le_of_ble_eq_true rfl) (Nat.le_of_ble_eq_true rfl) hS dX10_wouldCut_13 G ⟨_, rfl, XFr.rf, (by rw [((by decide) : Int32.toInt (-1) = (-1 : Int))] <;> exact (v_X10_wouldCut_13_15 (K := K) (F := F) a G p0 p1 x6 p2 ha sb z5 t6 c9))⟩ hT
theorem v_X3_clear_25_1 {K : Nat → Nat} {F : Nat → Nat → Nat} (a : Nat) (G_7 : XG) (l1_7 : Int32) (N7 : Nat)
    (ha : K a = 5)
    (pz : ∀ t : Int, 0 ≤ t → t < l1_7.toInt → aI (G_7.2.1 (F a 0)) t = 0)
    (I7_0 : 0 ≤ l1_7.toInt ∧ l1_7.toInt ≤ 3)
    (I7_1 : (0 : Int) ≤ l1_7.toInt)
    (hm7 : 2147483648 - l1_7.toInt < (((N7) + 1 : Nat) : Int))
    (c9 : (3 : Int) ≤ l1_7.toInt) :
    ∀ t : Int, 0 ≤ t → t < 3 → aI (G_7.2.1 (F a 0)) t = 0 := by
  intro t h1 h2
  exact pz t h1 (by omega)
theorem v_X3_clear_22_2 {K : Nat → Nat} {F : Nat → Nat → Nat} (a : Nat) (G_7 : XG) (G18 : XG) (l1_7 : Int32) (N7 : Nat)
    (ha : K a = 5)
    (hG18 : G18 = cput G_7 (F a 0) l1_7.toNatClampNeg 0)
    (pz : ∀ t : Int, 0 ≤ t → t < l1_7.toInt → aI (G_7.2.1 (F a 0)) t = 0)
    (I7_0 : 0 ≤ l1_7.toInt ∧ l1_7.toInt ≤ 3)
    (I7_1 : (0 : Int) ≤ l1_7.toInt)
    (hm7 : 2147483648 - l1_7.toInt < (((N7) + 1 : Nat) : Int))
    (c9 : ¬ ((3 : Int) ≤ l1_7.toInt)) :
    ∀ t : Int, 0 ≤ t → t < (l1_7.toInt + 1) → aI (G18.2.1 (F a 0)) t = 0 := by
  intro t h1 h2
  rw [hG18, aI_put (by omega) _ h1]
  by_cases e : t = l1_7.toInt
  · rw [if_pos e]; decide
  · rw [if_neg e]; exact pz t h1 (by omega)
theorem v_X3_clear_6_3 {K : Nat → Nat} {F : Nat → Nat → Nat} (a : Nat) (G2 : XG)
    (ha : K a = 5) :
    ∀ t : Int, 0 ≤ t → t < (0 : Int) → aI (G2.2.1 (F a 0)) t = 0 := by
  intro t h1 h2
  exact absurd h1 (by omega)
theorem v_X3_reach_27_1 {K : Nat → Nat} {F : Nat → Nat → Nat} (a : Nat) (G : XG) (x1 : Int32) (p0 : Int32) (p1 : Int32)
    (ha : K a = 5)
    (li : LIv (aI (G.2.1 (F a 0))) (aI (G.2.1 (F a 1))) (aI (G.2.1 (F a 2))) ((G.1 a 3).toInt))
    (t1 : (x1.toInt = 1 ∧ 0 ≤ p0.toInt ∧ p0.toInt < 3) ∨ (x1.toInt = 0 ∧ (p0.toInt < 0 ∨ 3 ≤ p0.toInt)))
    (c4 : x1.toInt = 0) :
    LGo (aI (G.2.1 (F a 0))) (aI (G.2.1 (F a 1))) (aI (G.2.1 (F a 2))) ((G.1 a 3).toInt) (aI (G.2.1 (F a 0))) (aI (G.2.1 (F a 1))) (aI (G.2.1 (F a 2))) ((G.1 a 3).toInt) (fun u9 k9 => u9 = p0.toInt ∧ k9 = p1.toInt) := by
  refine LGo_same li (fun u9 k9 h1 h2 => ?_)
  obtain ⟨h2, h3⟩ := h2
  unfold inR at h1
  first
    | (exfalso; omega)
    | (rw [h2, h3]; omega)
theorem v_X3_reach_27_2 {K : Nat → Nat} {F : Nat → Nat → Nat} (a : Nat) (G : XG) (x1 : Int32) (p0 : Int32) (x8 : Int32) (p1 : Int32)
    (ha : K a = 5)
    (li : LIv (aI (G.2.1 (F a 0))) (aI (G.2.1 (F a 1))) (aI (G.2.1 (F a 2))) ((G.1 a 3).toInt))
    (t1 : (x1.toInt = 1 ∧ 0 ≤ p0.toInt ∧ p0.toInt < 3) ∨ (x1.toInt = 0 ∧ (p0.toInt < 0 ∨ 3 ≤ p0.toInt)))
    (c4 : ¬ (x1.toInt = 0))
    (t8 : (x8.toInt = 1 ∧ 0 ≤ p1.toInt ∧ p1.toInt < 30) ∨ (x8.toInt = 0 ∧ (p1.toInt < 0 ∨ 30 ≤ p1.toInt)))
    (c11 : x8.toInt = 0) :
    LGo (aI (G.2.1 (F a 0))) (aI (G.2.1 (F a 1))) (aI (G.2.1 (F a 2))) ((G.1 a 3).toInt) (aI (G.2.1 (F a 0))) (aI (G.2.1 (F a 1))) (aI (G.2.1 (F a 2))) ((G.1 a 3).toInt) (fun u9 k9 => u9 = p0.toInt ∧ k9 = p1.toInt) := by
  refine LGo_same li (fun u9 k9 h1 h2 => ?_)
  obtain ⟨h2, h3⟩ := h2
  unfold inR at h1
  first
    | (exfalso; omega)
    | (rw [h2, h3]; omega)
theorem v_X3_reach_86_3 {K : Nat → Nat} {F : Nat → Nat → Nat} (a : Nat) (G : XG) (x19 : Int32) (p0 : Int32) (x21 : Int32) (p1 : Int32) (x23 : Int32) (x1 : Int32) (x8 : Int32)
    (ha : K a = 5)
    (li : LIv (aI (G.2.1 (F a 0))) (aI (G.2.1 (F a 1))) (aI (G.2.1 (F a 2))) ((G.1 a 3).toInt))
    (hv19 : x19.toInt = (aI (G.2.1 (F a 0)) (p0.toInt)))
    (he21 : x21 = (x19 : Int32) >>> (p1 &&& 31))
    (he23 : x23 = x21 &&& 1)
    (t1 : (x1.toInt = 1 ∧ 0 ≤ p0.toInt ∧ p0.toInt < 3) ∨ (x1.toInt = 0 ∧ (p0.toInt < 0 ∨ 3 ≤ p0.toInt)))
    (c4 : ¬ (x1.toInt = 0))
    (t8 : (x8.toInt = 1 ∧ 0 ≤ p1.toInt ∧ p1.toInt < 30) ∨ (x8.toInt = 0 ∧ (p1.toInt < 0 ∨ 30 ≤ p1.toInt)))
    (c11 : ¬ (x8.toInt = 0))
    (hb23 : x23.toInt = (bI (aI (G.2.1 (F a 0)) (p0.toInt)) (p1.toInt)))
    (hb23a : x23.toInt = 0 ∨ x23.toInt = 1)
    (c24 : x23.toInt = 0)
    (c32 : ((G.1 a 3).toInt) < 0) :
    LGo (aI (G.2.1 (F a 0))) (aI (G.2.1 (F a 1))) (aI (G.2.1 (F a 2))) ((G.1 a 3).toInt) (aI (G.2.1 (F a 0))) (aI (G.2.1 (F a 1))) (aI (G.2.1 (F a 2))) ((G.1 a 3).toInt) (fun u9 k9 => u9 = p0.toInt ∧ k9 = p1.toInt) := by
  have hb := li.b
  first
    | (exfalso; omega)
    | (have hin : inR p0.toInt p1.toInt := ⟨by omega, by omega⟩
       have h0 : bI (aI (G.2.1 (F a 0)) p0.toInt) p1.toInt = 0 := by omega
       have hl := li.lt hin h0
       first
         | (exfalso; omega)
         | (refine LGo_add li hin h0 ?_ ?_ ?_ ?_ ?_
            · rw [d_G83_a_3]; omega
            · intro t t0 ht
              rw [c_G83_F_a_0, hG55, aI_put (by omega) _ t0, if_neg ht]
            · intro j j0 j1
              rw [c_G83_F_a_0, hG55, aI_put (by omega) _ (by omega), if_pos rfl]
              exact bI_set he53 he54 hv50 rfl (by omega) j j0 j1
            · intro z z0
              rw [c_G83_F_a_1, hG65, aI_put (by omega) _ z0, c_G55_F_a_1]
            · intro z z0
              rw [c_G83_F_a_2, hG75, aI_put (by omega) _ z0, c_G65_F_a_2]))
theorem v_X3_reach_86_4 {K : Nat → Nat} {F : Nat → Nat → Nat} (a : Nat) (G : XG) (x19 : Int32) (p0 : Int32) (x21 : Int32) (p1 : Int32) (x23 : Int32) (x1 : Int32) (x8 : Int32)
    (ha : K a = 5)
    (li : LIv (aI (G.2.1 (F a 0))) (aI (G.2.1 (F a 1))) (aI (G.2.1 (F a 2))) ((G.1 a 3).toInt))
    (hv19 : x19.toInt = (aI (G.2.1 (F a 0)) (p0.toInt)))
    (he21 : x21 = (x19 : Int32) >>> (p1 &&& 31))
    (he23 : x23 = x21 &&& 1)
    (t1 : (x1.toInt = 1 ∧ 0 ≤ p0.toInt ∧ p0.toInt < 3) ∨ (x1.toInt = 0 ∧ (p0.toInt < 0 ∨ 3 ≤ p0.toInt)))
    (c4 : ¬ (x1.toInt = 0))
    (t8 : (x8.toInt = 1 ∧ 0 ≤ p1.toInt ∧ p1.toInt < 30) ∨ (x8.toInt = 0 ∧ (p1.toInt < 0 ∨ 30 ≤ p1.toInt)))
    (c11 : ¬ (x8.toInt = 0))
    (hb23 : x23.toInt = (bI (aI (G.2.1 (F a 0)) (p0.toInt)) (p1.toInt)))
    (hb23a : x23.toInt = 0 ∨ x23.toInt = 1)
    (c24 : x23.toInt = 0)
    (c32 : ¬ (((G.1 a 3).toInt) < 0))
    (c41 : (90 : Int) ≤ ((G.1 a 3).toInt)) :
    LGo (aI (G.2.1 (F a 0))) (aI (G.2.1 (F a 1))) (aI (G.2.1 (F a 2))) ((G.1 a 3).toInt) (aI (G.2.1 (F a 0))) (aI (G.2.1 (F a 1))) (aI (G.2.1 (F a 2))) ((G.1 a 3).toInt) (fun u9 k9 => u9 = p0.toInt ∧ k9 = p1.toInt) := by
  have hb := li.b
  first
    | (exfalso; omega)
    | (have hin : inR p0.toInt p1.toInt := ⟨by omega, by omega⟩
       have h0 : bI (aI (G.2.1 (F a 0)) p0.toInt) p1.toInt = 0 := by omega
       have hl := li.lt hin h0
       first
         | (exfalso; omega)
         | (refine LGo_add li hin h0 ?_ ?_ ?_ ?_ ?_
            · rw [d_G83_a_3]; omega
            · intro t t0 ht
              rw [c_G83_F_a_0, hG55, aI_put (by omega) _ t0, if_neg ht]
            · intro j j0 j1
              rw [c_G83_F_a_0, hG55, aI_put (by omega) _ (by omega), if_pos rfl]
              exact bI_set he53 he54 hv50 rfl (by omega) j j0 j1
            · intro z z0
              rw [c_G83_F_a_1, hG65, aI_put (by omega) _ z0, c_G55_F_a_1]
            · intro z z0
              rw [c_G83_F_a_2, hG75, aI_put (by omega) _ z0, c_G65_F_a_2]))
theorem v_X3_reach_86_5 {K : Nat → Nat} {F : Nat → Nat → Nat} (a : Nat) (G55 : XG) (G : XG) (p0 : Int32) (x54 : Int32) (G65 : XG) (G75 : XG) (p1 : Int32) (G83 : XG) (x82 : Int32) (x19 : Int32) (x21 : Int32) (x23 : Int32) (x50 : Int32) (x53 : Int32) (x1 : Int32) (x8 : Int32)
    (ha : K a = 5)
    (hG55 : G55 = cput G (F a 0) p0.toNatClampNeg x54)
    (hG65 : G65 = cput G55 (F a 1) (G.1 a 3).toNatClampNeg p0)
    (hG75 : G75 = cput G65 (F a 2) (G.1 a 3).toNatClampNeg p1)
    (li : LIv (aI (G.2.1 (F a 0))) (aI (G.2.1 (F a 1))) (aI (G.2.1 (F a 2))) ((G.1 a 3).toInt))
    (hv19 : x19.toInt = (aI (G.2.1 (F a 0)) (p0.toInt)))
    (he21 : x21 = (x19 : Int32) >>> (p1 &&& 31))
    (he23 : x23 = x21 &&& 1)
    (hv50 : x50.toInt = (aI (G.2.1 (F a 0)) (p0.toInt)))
    (he53 : x53 = (1 : Int32) <<< (p1 &&& 31))
    (he54 : x54 = x50 ||| x53)
    (e82 : x82.toInt = (((G.1 a 3).toInt) + (1 : Int)))
    (t1 : (x1.toInt = 1 ∧ 0 ≤ p0.toInt ∧ p0.toInt < 3) ∨ (x1.toInt = 0 ∧ (p0.toInt < 0 ∨ 3 ≤ p0.toInt)))
    (c4 : ¬ (x1.toInt = 0))
    (t8 : (x8.toInt = 1 ∧ 0 ≤ p1.toInt ∧ p1.toInt < 30) ∨ (x8.toInt = 0 ∧ (p1.toInt < 0 ∨ 30 ≤ p1.toInt)))
    (c11 : ¬ (x8.toInt = 0))
    (hb23 : x23.toInt = (bI (aI (G.2.1 (F a 0)) (p0.toInt)) (p1.toInt)))
    (hb23a : x23.toInt = 0 ∨ x23.toInt = 1)
    (c24 : x23.toInt = 0)
    (c32 : ¬ (((G.1 a 3).toInt) < 0))
    (c41 : ¬ ((90 : Int) ≤ ((G.1 a 3).toInt)))
    (c_G55_F_a_1 : G55.2.1 (F a 1) = G.2.1 (F a 1))
    (c_G65_F_a_2 : G65.2.1 (F a 2) = G.2.1 (F a 2))
    (c_G83_F_a_0 : G83.2.1 (F a 0) = G55.2.1 (F a 0))
    (c_G83_F_a_1 : G83.2.1 (F a 1) = G65.2.1 (F a 1))
    (c_G83_F_a_2 : G83.2.1 (F a 2) = G75.2.1 (F a 2))
    (d_G83_a_3 : G83.1 a 3 = x82) :
    LGo (aI (G.2.1 (F a 0))) (aI (G.2.1 (F a 1))) (aI (G.2.1 (F a 2))) ((G.1 a 3).toInt) (aI (G83.2.1 (F a 0))) (aI (G83.2.1 (F a 1))) (aI (G83.2.1 (F a 2))) ((G83.1 a 3).toInt) (fun u9 k9 => u9 = p0.toInt ∧ k9 = p1.toInt) := by
  have hb := li.b
  first
    | (exfalso; omega)
    | (have hin : inR p0.toInt p1.toInt := ⟨by omega, by omega⟩
       have h0 : bI (aI (G.2.1 (F a 0)) p0.toInt) p1.toInt = 0 := by omega
       have hl := li.lt hin h0
       first
         | (exfalso; omega)
         | (refine LGo_add li hin h0 ?_ ?_ ?_ ?_ ?_
            · rw [d_G83_a_3]; omega
            · intro t t0 ht
              rw [c_G83_F_a_0, hG55, aI_put (by omega) _ t0, if_neg ht]
            · intro j j0 j1
              rw [c_G83_F_a_0, hG55, aI_put (by omega) _ (by omega), if_pos rfl]
              exact bI_set he53 he54 hv50 rfl (by omega) j j0 j1
            · intro z z0
              rw [c_G83_F_a_1, hG65, aI_put (by omega) _ z0, c_G55_F_a_1]
            · intro z z0
              rw [c_G83_F_a_2, hG75, aI_put (by omega) _ z0, c_G65_F_a_2]))
theorem v_X3_reach_27_6 {K : Nat → Nat} {F : Nat → Nat → Nat} (a : Nat) (G : XG) (x19 : Int32) (p0 : Int32) (x21 : Int32) (p1 : Int32) (x23 : Int32) (x1 : Int32) (x8 : Int32)
    (ha : K a = 5)
    (li : LIv (aI (G.2.1 (F a 0))) (aI (G.2.1 (F a 1))) (aI (G.2.1 (F a 2))) ((G.1 a 3).toInt))
    (hv19 : x19.toInt = (aI (G.2.1 (F a 0)) (p0.toInt)))
    (he21 : x21 = (x19 : Int32) >>> (p1 &&& 31))
    (he23 : x23 = x21 &&& 1)
    (t1 : (x1.toInt = 1 ∧ 0 ≤ p0.toInt ∧ p0.toInt < 3) ∨ (x1.toInt = 0 ∧ (p0.toInt < 0 ∨ 3 ≤ p0.toInt)))
    (c4 : ¬ (x1.toInt = 0))
    (t8 : (x8.toInt = 1 ∧ 0 ≤ p1.toInt ∧ p1.toInt < 30) ∨ (x8.toInt = 0 ∧ (p1.toInt < 0 ∨ 30 ≤ p1.toInt)))
    (c11 : ¬ (x8.toInt = 0))
    (hb23 : x23.toInt = (bI (aI (G.2.1 (F a 0)) (p0.toInt)) (p1.toInt)))
    (hb23a : x23.toInt = 0 ∨ x23.toInt = 1)
    (c24 : ¬ (x23.toInt = 0)) :
    LGo (aI (G.2.1 (F a 0))) (aI (G.2.1 (F a 1))) (aI (G.2.1 (F a 2))) ((G.1 a 3).toInt) (aI (G.2.1 (F a 0))) (aI (G.2.1 (F a 1))) (aI (G.2.1 (F a 2))) ((G.1 a 3).toInt) (fun u9 k9 => u9 = p0.toInt ∧ k9 = p1.toInt) := by
  refine LGo_same li (fun u9 k9 h1 h2 => ?_)
  obtain ⟨h2, h3⟩ := h2
  unfold inR at h1
  first
    | (exfalso; omega)
    | (rw [h2, h3]; omega)
theorem v_X3_reachFrom_100_1 {K : Nat → Nat} {F : Nat → Nat → Nat} (a : Nat) (p0 : Nat) (p1 : Nat) (G : XG) (G_3 : XG) (l5_3 : Int32) (p2 : Int32) (p3 : Int32) (N3 : Nat)
    (ha : K a = 5)
    (hp0 : K p0 = 8)
    (hp1 : K p1 = 2)
    (li : LIv (aI (G.2.1 (F a 0))) (aI (G.2.1 (F a 1))) (aI (G.2.1 (F a 2))) ((G.1 a 3).toInt))
    (pl : LGo (aI (G.2.1 (F a 0))) (aI (G.2.1 (F a 1))) (aI (G.2.1 (F a 2))) ((G.1 a 3).toInt) (aI (G_3.2.1 (F a 0))) (aI (G_3.2.1 (F a 1))) (aI (G_3.2.1 (F a 2))) ((G_3.1 a 3).toInt) (fun u9 k9 => lnC G (G.2.2.1 (F p1 1)) (vw (G.2.1 (F p0 0))) l5_3.toInt u9 k9 p2.toInt p3.toInt))
    (sb : 0 ≤ ((G.1 p1 2).toInt) ∧ ((G.1 p1 2).toInt) ≤ 12)
    (I3_0 : 0 ≤ l5_3.toInt ∧ l5_3.toInt ≤ ((G.1 p1 2).toInt))
    (hm3 : 2147483648 - l5_3.toInt < (((N3) + 1 : Nat) : Int))
    (c9 : ((G.1 p1 2).toInt) ≤ l5_3.toInt) :
    LGo (aI (G.2.1 (F a 0))) (aI (G.2.1 (F a 1))) (aI (G.2.1 (F a 2))) ((G.1 a 3).toInt) (aI (G_3.2.1 (F a 0))) (aI (G_3.2.1 (F a 1))) (aI (G_3.2.1 (F a 2))) ((G_3.1 a 3).toInt) (fun u9 k9 => lnC G (G.2.2.1 (F p1 1)) (vw (G.2.1 (F p0 0))) ((G.1 p1 2).toInt) u9 k9 p2.toInt p3.toInt) := by
  exact pl.cg (fun u9 k9 _ => by rw [show l5_3.toInt = (G.1 p1 2).toInt from by omega])
theorem v_X3_reachFrom_97_2 {K : Nat → Nat} {F : Nat → Nat → Nat} (a : Nat) (p0 : Nat) (p1 : Nat) (G : XG) (G_3 : XG) (l5_3 : Int32) (p2 : Int32) (p3 : Int32) (N3 : Nat)
    (ha : K a = 5)
    (hp0 : K p0 = 8)
    (hp1 : K p1 = 2)
    (li : LIv (aI (G.2.1 (F a 0))) (aI (G.2.1 (F a 1))) (aI (G.2.1 (F a 2))) ((G.1 a 3).toInt))
    (pl : LGo (aI (G.2.1 (F a 0))) (aI (G.2.1 (F a 1))) (aI (G.2.1 (F a 2))) ((G.1 a 3).toInt) (aI (G_3.2.1 (F a 0))) (aI (G_3.2.1 (F a 1))) (aI (G_3.2.1 (F a 2))) ((G_3.1 a 3).toInt) (fun u9 k9 => lnC G (G.2.2.1 (F p1 1)) (vw (G.2.1 (F p0 0))) l5_3.toInt u9 k9 p2.toInt p3.toInt))
    (hn15 : (l5_3.toInt < 0 ∨ ((G_3.1 p1 2).toInt) ≤ l5_3.toInt ∨ 12 ≤ l5_3.toInt) ∨ G_3.2.2.1 (F p1 1) (l5_3.toInt).toNat = none)
    (sb : 0 ≤ ((G.1 p1 2).toInt) ∧ ((G.1 p1 2).toInt) ≤ 12)
    (I3_0 : 0 ≤ l5_3.toInt ∧ l5_3.toInt ≤ ((G.1 p1 2).toInt))
    (hm3 : 2147483648 - l5_3.toInt < (((N3) + 1 : Nat) : Int))
    (c9 : ¬ (((G.1 p1 2).toInt) ≤ l5_3.toInt))
    (r_G_3_F_p1_1 : G_3.2.2.1 (F p1 1) = G.2.2.1 (F p1 1))
    (d_G_3_p1_2 : G_3.1 p1 2 = G.1 p1 2) :
    LGo (aI (G.2.1 (F a 0))) (aI (G.2.1 (F a 1))) (aI (G.2.1 (F a 2))) ((G.1 a 3).toInt) (aI (G_3.2.1 (F a 0))) (aI (G_3.2.1 (F a 1))) (aI (G_3.2.1 (F a 2))) ((G_3.1 a 3).toInt) (fun u9 k9 => lnC G (G.2.2.1 (F p1 1)) (vw (G.2.1 (F p0 0))) (l5_3.toInt + 1) u9 k9 p2.toInt p3.toInt) := by
  first
    | (refine pl.cg (fun u9 k9 _ => (lnC_s (by omega)).trans ⟨fun h => h.elim id (fun h9 => ?_), Or.inl⟩)
       obtain ⟨q9, e1, -⟩ := h9
       rcases hn15 with h | h
       · rw [d_G_3_p1_2] at h; exfalso; omega
       · rw [r_G_3_F_p1_1] at h
         rw [h] at e1
         cases e1)
    | (refine pl.cg (fun u9 k9 _ => (lnC_s (by omega)).trans ⟨fun h => h.elim id (fun h9 => ?_), Or.inl⟩)
       obtain ⟨q9, e1, e2, e3, -⟩ := h9
       rw [r_G_3_F_p1_1] at hs15
       rw [hs15] at e1
       cases e1
       exfalso; omega)
    | (refine pl.tr pk (fun u9 k9 hi => (lnC_s (by omega)).trans ⟨fun h => h.imp id (fun h9 => ?_), fun h => h.imp id (fun h9 => ?_)⟩)
       · obtain ⟨q9, e1, e2, e3, e4, e5⟩ := h9
         rw [r_G_3_F_p1_1] at hs15
         rw [hs15] at e1
         cases e1
         exact ⟨e4.symm, by have := hi.2; omega, e5⟩
       · obtain ⟨e4, -, e5⟩ := h9
         exact ⟨q15, by rw [← r_G_3_F_p1_1]; exact hs15, by omega, by omega, e4.symm, e5⟩)
theorem v_X3_reachFrom_97_3 {K : Nat → Nat} {F : Nat → Nat → Nat} (a : Nat) (p0 : Nat) (p1 : Nat) (q15 : Nat) (G : XG) (G_3 : XG) (l5_3 : Int32) (p2 : Int32) (p3 : Int32) (N3 : Nat)
    (ha : K a = 5)
    (hp0 : K p0 = 8)
    (hp1 : K p1 = 2)
    (li : LIv (aI (G.2.1 (F a 0))) (aI (G.2.1 (F a 1))) (aI (G.2.1 (F a 2))) ((G.1 a 3).toInt))
    (pl : LGo (aI (G.2.1 (F a 0))) (aI (G.2.1 (F a 1))) (aI (G.2.1 (F a 2))) ((G.1 a 3).toInt) (aI (G_3.2.1 (F a 0))) (aI (G_3.2.1 (F a 1))) (aI (G_3.2.1 (F a 2))) ((G_3.1 a 3).toInt) (fun u9 k9 => lnC G (G.2.2.1 (F p1 1)) (vw (G.2.1 (F p0 0))) l5_3.toInt u9 k9 p2.toInt p3.toInt))
    (hs15 : G_3.2.2.1 (F p1 1) (l5_3.toInt).toNat = some q15)
    (sb : 0 ≤ ((G.1 p1 2).toInt) ∧ ((G.1 p1 2).toInt) ≤ 12)
    (I3_0 : 0 ≤ l5_3.toInt ∧ l5_3.toInt ≤ ((G.1 p1 2).toInt))
    (hm3 : 2147483648 - l5_3.toInt < (((N3) + 1 : Nat) : Int))
    (c9 : ¬ (((G.1 p1 2).toInt) ≤ l5_3.toInt))
    (ht15 : 0 ≤ l5_3.toInt ∧ l5_3.toInt < ((G.1 p1 2).toInt) ∧ l5_3.toInt < 12)
    (c31 : ((G.1 q15 0).toInt) ≠ (1 : Int))
    (r_G_3_F_p1_1 : G_3.2.2.1 (F p1 1) = G.2.2.1 (F p1 1))
    (d_G_3_p1_2 : G_3.1 p1 2 = G.1 p1 2) :
    LGo (aI (G.2.1 (F a 0))) (aI (G.2.1 (F a 1))) (aI (G.2.1 (F a 2))) ((G.1 a 3).toInt) (aI (G_3.2.1 (F a 0))) (aI (G_3.2.1 (F a 1))) (aI (G_3.2.1 (F a 2))) ((G_3.1 a 3).toInt) (fun u9 k9 => lnC G (G.2.2.1 (F p1 1)) (vw (G.2.1 (F p0 0))) (l5_3.toInt + 1) u9 k9 p2.toInt p3.toInt) := by
  first
    | (refine pl.cg (fun u9 k9 _ => (lnC_s (by omega)).trans ⟨fun h => h.elim id (fun h9 => ?_), Or.inl⟩)
       obtain ⟨q9, e1, -⟩ := h9
       rcases hn15 with h | h
       · rw [d_G_3_p1_2] at h; exfalso; omega
       · rw [r_G_3_F_p1_1] at h
         rw [h] at e1
         cases e1)
    | (refine pl.cg (fun u9 k9 _ => (lnC_s (by omega)).trans ⟨fun h => h.elim id (fun h9 => ?_), Or.inl⟩)
       obtain ⟨q9, e1, e2, e3, -⟩ := h9
       rw [r_G_3_F_p1_1] at hs15
       rw [hs15] at e1
       cases e1
       exfalso; omega)
    | (refine pl.tr pk (fun u9 k9 hi => (lnC_s (by omega)).trans ⟨fun h => h.imp id (fun h9 => ?_), fun h => h.imp id (fun h9 => ?_)⟩)
       · obtain ⟨q9, e1, e2, e3, e4, e5⟩ := h9
         rw [r_G_3_F_p1_1] at hs15
         rw [hs15] at e1
         cases e1
         exact ⟨e4.symm, by have := hi.2; omega, e5⟩
       · obtain ⟨e4, -, e5⟩ := h9
         exact ⟨q15, by rw [← r_G_3_F_p1_1]; exact hs15, by omega, by omega, e4.symm, e5⟩)
theorem v_X3_reachFrom_97_4 {K : Nat → Nat} {F : Nat → Nat → Nat} (a : Nat) (p0 : Nat) (p1 : Nat) (q15 : Nat) (G : XG) (G_3 : XG) (G_49 : XG) (l5_3 : Int32) (p2 : Int32) (p3 : Int32) (l7_49 : Int32) (N3 : Nat) (N49 : Nat)
    (ha : K a = 5)
    (hp0 : K p0 = 8)
    (hp1 : K p1 = 2)
    (li : LIv (aI (G.2.1 (F a 0))) (aI (G.2.1 (F a 1))) (aI (G.2.1 (F a 2))) ((G.1 a 3).toInt))
    (pl : LGo (aI (G.2.1 (F a 0))) (aI (G.2.1 (F a 1))) (aI (G.2.1 (F a 2))) ((G.1 a 3).toInt) (aI (G_3.2.1 (F a 0))) (aI (G_3.2.1 (F a 1))) (aI (G_3.2.1 (F a 2))) ((G_3.1 a 3).toInt) (fun u9 k9 => lnC G (G.2.2.1 (F p1 1)) (vw (G.2.1 (F p0 0))) l5_3.toInt u9 k9 p2.toInt p3.toInt))
    (hs15 : G_3.2.2.1 (F p1 1) (l5_3.toInt).toNat = some q15)
    (pk : LGo (aI (G_3.2.1 (F a 0))) (aI (G_3.2.1 (F a 1))) (aI (G_3.2.1 (F a 2))) ((G_3.1 a 3).toInt) (aI (G_49.2.1 (F a 0))) (aI (G_49.2.1 (F a 1))) (aI (G_49.2.1 (F a 2))) ((G_49.1 a 3).toInt) (fun u9 k9 => u9 = ((G.1 q15 2).toInt) ∧ k9 < l7_49.toInt ∧ cel (vw (G.2.1 (F p0 0))) u9 k9 ((G.1 q15 3).toInt) = p3.toInt))
    (sb : 0 ≤ ((G.1 p1 2).toInt) ∧ ((G.1 p1 2).toInt) ≤ 12)
    (I3_0 : 0 ≤ l5_3.toInt ∧ l5_3.toInt ≤ ((G.1 p1 2).toInt))
    (hm3 : 2147483648 - l5_3.toInt < (((N3) + 1 : Nat) : Int))
    (c9 : ¬ (((G.1 p1 2).toInt) ≤ l5_3.toInt))
    (ht15 : 0 ≤ l5_3.toInt ∧ l5_3.toInt < ((G.1 p1 2).toInt) ∧ l5_3.toInt < 12)
    (c31 : ¬ (((G.1 q15 0).toInt) ≠ (1 : Int)))
    (c40 : ((G.1 q15 4).toInt) = p2.toInt)
    (I49_0 : 0 ≤ l7_49.toInt ∧ l7_49.toInt ≤ 30)
    (I49_1 : (0 : Int) ≤ l7_49.toInt)
    (hm49 : 2147483648 - l7_49.toInt < (((N49) + 1 : Nat) : Int))
    (c53 : (30 : Int) ≤ l7_49.toInt)
    (r_G_3_F_p1_1 : G_3.2.2.1 (F p1 1) = G.2.2.1 (F p1 1))
    (d_G_3_p1_2 : G_3.1 p1 2 = G.1 p1 2) :
    LGo (aI (G.2.1 (F a 0))) (aI (G.2.1 (F a 1))) (aI (G.2.1 (F a 2))) ((G.1 a 3).toInt) (aI (G_49.2.1 (F a 0))) (aI (G_49.2.1 (F a 1))) (aI (G_49.2.1 (F a 2))) ((G_49.1 a 3).toInt) (fun u9 k9 => lnC G (G.2.2.1 (F p1 1)) (vw (G.2.1 (F p0 0))) (l5_3.toInt + 1) u9 k9 p2.toInt p3.toInt) := by
  first
    | (refine pl.cg (fun u9 k9 _ => (lnC_s (by omega)).trans ⟨fun h => h.elim id (fun h9 => ?_), Or.inl⟩)
       obtain ⟨q9, e1, -⟩ := h9
       rcases hn15 with h | h
       · rw [d_G_3_p1_2] at h; exfalso; omega
       · rw [r_G_3_F_p1_1] at h
         rw [h] at e1
         cases e1)
    | (refine pl.cg (fun u9 k9 _ => (lnC_s (by omega)).trans ⟨fun h => h.elim id (fun h9 => ?_), Or.inl⟩)
       obtain ⟨q9, e1, e2, e3, -⟩ := h9
       rw [r_G_3_F_p1_1] at hs15
       rw [hs15] at e1
       cases e1
       exfalso; omega)
    | (refine pl.tr pk (fun u9 k9 hi => (lnC_s (by omega)).trans ⟨fun h => h.imp id (fun h9 => ?_), fun h => h.imp id (fun h9 => ?_)⟩)
       · obtain ⟨q9, e1, e2, e3, e4, e5⟩ := h9
         rw [r_G_3_F_p1_1] at hs15
         rw [hs15] at e1
         cases e1
         exact ⟨e4.symm, by have := hi.2; omega, e5⟩
       · obtain ⟨e4, -, e5⟩ := h9
         exact ⟨q15, by rw [← r_G_3_F_p1_1]; exact hs15, by omega, by omega, e4.symm, e5⟩)
theorem v_X3_reachFrom_91_5 {K : Nat → Nat} {F : Nat → Nat → Nat} (a : Nat) (p0 : Nat) (p1 : Nat) (q15 : Nat) (G : XG) (G_3 : XG) (G_49 : XG) (l5_3 : Int32) (p2 : Int32) (p3 : Int32) (l7_49 : Int32) (N3 : Nat) (N49 : Nat)
    (ha : K a = 5)
    (hp0 : K p0 = 8)
    (hp1 : K p1 = 2)
    (li : LIv (aI (G.2.1 (F a 0))) (aI (G.2.1 (F a 1))) (aI (G.2.1 (F a 2))) ((G.1 a 3).toInt))
    (pl : LGo (aI (G.2.1 (F a 0))) (aI (G.2.1 (F a 1))) (aI (G.2.1 (F a 2))) ((G.1 a 3).toInt) (aI (G_3.2.1 (F a 0))) (aI (G_3.2.1 (F a 1))) (aI (G_3.2.1 (F a 2))) ((G_3.1 a 3).toInt) (fun u9 k9 => lnC G (G.2.2.1 (F p1 1)) (vw (G.2.1 (F p0 0))) l5_3.toInt u9 k9 p2.toInt p3.toInt))
    (hs15 : G_3.2.2.1 (F p1 1) (l5_3.toInt).toNat = some q15)
    (pk : LGo (aI (G_3.2.1 (F a 0))) (aI (G_3.2.1 (F a 1))) (aI (G_3.2.1 (F a 2))) ((G_3.1 a 3).toInt) (aI (G_49.2.1 (F a 0))) (aI (G_49.2.1 (F a 1))) (aI (G_49.2.1 (F a 2))) ((G_49.1 a 3).toInt) (fun u9 k9 => u9 = ((G.1 q15 2).toInt) ∧ k9 < l7_49.toInt ∧ cel (vw (G.2.1 (F p0 0))) u9 k9 ((G.1 q15 3).toInt) = p3.toInt))
    (sb : 0 ≤ ((G.1 p1 2).toInt) ∧ ((G.1 p1 2).toInt) ≤ 12)
    (I3_0 : 0 ≤ l5_3.toInt ∧ l5_3.toInt ≤ ((G.1 p1 2).toInt))
    (hm3 : 2147483648 - l5_3.toInt < (((N3) + 1 : Nat) : Int))
    (c9 : ¬ (((G.1 p1 2).toInt) ≤ l5_3.toInt))
    (ht15 : 0 ≤ l5_3.toInt ∧ l5_3.toInt < ((G.1 p1 2).toInt) ∧ l5_3.toInt < 12)
    (c31 : ¬ (((G.1 q15 0).toInt) ≠ (1 : Int)))
    (c40 : ((G.1 q15 4).toInt) = p2.toInt)
    (I49_0 : 0 ≤ l7_49.toInt ∧ l7_49.toInt ≤ 30)
    (I49_1 : (0 : Int) ≤ l7_49.toInt)
    (hm49 : 2147483648 - l7_49.toInt < (((N49) + 1 : Nat) : Int))
    (c53 : ¬ ((30 : Int) ≤ l7_49.toInt))
    (c74 : (cel (vw (G.2.1 (F p0 0))) ((G.1 q15 2).toInt) (l7_49.toInt) ((G.1 q15 3).toInt)) ≠ p3.toInt) :
    LGo (aI (G_3.2.1 (F a 0))) (aI (G_3.2.1 (F a 1))) (aI (G_3.2.1 (F a 2))) ((G_3.1 a 3).toInt) (aI (G_49.2.1 (F a 0))) (aI (G_49.2.1 (F a 1))) (aI (G_49.2.1 (F a 2))) ((G_49.1 a 3).toInt) (fun u9 k9 => u9 = ((G.1 q15 2).toInt) ∧ k9 < (l7_49.toInt + 1) ∧ cel (vw (G.2.1 (F p0 0))) u9 k9 ((G.1 q15 3).toInt) = p3.toInt) := by
  first
    | (refine pk.tr oq85 (fun u9 k9 hi => ⟨fun h => ?_, fun h => ?_⟩)
       · obtain ⟨h1, h2, h3⟩ := h
         by_cases e : k9 = l7_49.toInt
         · exact Or.inr ⟨h1, e⟩
         · exact Or.inl ⟨h1, by omega, h3⟩
       · rcases h with ⟨h1, h2, h3⟩ | ⟨h1, h2⟩
         · exact ⟨h1, by omega, h3⟩
         · exact ⟨h1, by omega, by rw [h1, h2]; omega⟩)
    | (refine pk.cg (fun u9 k9 hi => ⟨fun h => ?_, fun h => ?_⟩)
       · obtain ⟨h1, h2, h3⟩ := h
         by_cases e : k9 = l7_49.toInt
         · rw [h1, e] at h3; exfalso; omega
         · exact ⟨h1, by omega, h3⟩
       · obtain ⟨h1, h2, h3⟩ := h
         exact ⟨h1, by omega, h3⟩)
theorem v_X3_reachFrom_85_6 {F : Nat → Nat → Nat} (G_3 : XG) (a : Nat) (G_49 : XG) (G : XG) (q15 : Nat) (l7_49 : Int32) (p0 : Nat) (p3 : Int32)
    (pk : LGo (aI (G_3.2.1 (F a 0))) (aI (G_3.2.1 (F a 1))) (aI (G_3.2.1 (F a 2))) ((G_3.1 a 3).toInt) (aI (G_49.2.1 (F a 0))) (aI (G_49.2.1 (F a 1))) (aI (G_49.2.1 (F a 2))) ((G_49.1 a 3).toInt) (fun u9 k9 => u9 = ((G.1 q15 2).toInt) ∧ k9 < l7_49.toInt ∧ cel (vw (G.2.1 (F p0 0))) u9 k9 ((G.1 q15 3).toInt) = p3.toInt)) :
    LIv (aI (G_49.2.1 (F a 0))) (aI (G_49.2.1 (F a 1))) (aI (G_49.2.1 (F a 2))) ((G_49.1 a 3).toInt) := by
  exact pk.1
theorem v_X3_reachFrom_91_7 {K : Nat → Nat} {F : Nat → Nat → Nat} (a : Nat) (p0 : Nat) (p1 : Nat) (q15 : Nat) (G : XG) (G_3 : XG) (G_49 : XG) (G85 : XG) (l5_3 : Int32) (p2 : Int32) (p3 : Int32) (l7_49 : Int32) (N3 : Nat) (N49 : Nat)
    (ha : K a = 5)
    (hp0 : K p0 = 8)
    (hp1 : K p1 = 2)
    (li : LIv (aI (G.2.1 (F a 0))) (aI (G.2.1 (F a 1))) (aI (G.2.1 (F a 2))) ((G.1 a 3).toInt))
    (pl : LGo (aI (G.2.1 (F a 0))) (aI (G.2.1 (F a 1))) (aI (G.2.1 (F a 2))) ((G.1 a 3).toInt) (aI (G_3.2.1 (F a 0))) (aI (G_3.2.1 (F a 1))) (aI (G_3.2.1 (F a 2))) ((G_3.1 a 3).toInt) (fun u9 k9 => lnC G (G.2.2.1 (F p1 1)) (vw (G.2.1 (F p0 0))) l5_3.toInt u9 k9 p2.toInt p3.toInt))
    (hs15 : G_3.2.2.1 (F p1 1) (l5_3.toInt).toNat = some q15)
    (pk : LGo (aI (G_3.2.1 (F a 0))) (aI (G_3.2.1 (F a 1))) (aI (G_3.2.1 (F a 2))) ((G_3.1 a 3).toInt) (aI (G_49.2.1 (F a 0))) (aI (G_49.2.1 (F a 1))) (aI (G_49.2.1 (F a 2))) ((G_49.1 a 3).toInt) (fun u9 k9 => u9 = ((G.1 q15 2).toInt) ∧ k9 < l7_49.toInt ∧ cel (vw (G.2.1 (F p0 0))) u9 k9 ((G.1 q15 3).toInt) = p3.toInt))
    (oq85 : LGo (aI (G_49.2.1 (F a 0))) (aI (G_49.2.1 (F a 1))) (aI (G_49.2.1 (F a 2))) ((G_49.1 a 3).toInt) (aI (G85.2.1 (F a 0))) (aI (G85.2.1 (F a 1))) (aI (G85.2.1 (F a 2))) ((G85.1 a 3).toInt) (fun u9 k9 => u9 = ((G.1 q15 2).toInt) ∧ k9 = l7_49.toInt))
    (sb : 0 ≤ ((G.1 p1 2).toInt) ∧ ((G.1 p1 2).toInt) ≤ 12)
    (I3_0 : 0 ≤ l5_3.toInt ∧ l5_3.toInt ≤ ((G.1 p1 2).toInt))
    (hm3 : 2147483648 - l5_3.toInt < (((N3) + 1 : Nat) : Int))
    (c9 : ¬ (((G.1 p1 2).toInt) ≤ l5_3.toInt))
    (ht15 : 0 ≤ l5_3.toInt ∧ l5_3.toInt < ((G.1 p1 2).toInt) ∧ l5_3.toInt < 12)
    (c31 : ¬ (((G.1 q15 0).toInt) ≠ (1 : Int)))
    (c40 : ((G.1 q15 4).toInt) = p2.toInt)
    (I49_0 : 0 ≤ l7_49.toInt ∧ l7_49.toInt ≤ 30)
    (I49_1 : (0 : Int) ≤ l7_49.toInt)
    (hm49 : 2147483648 - l7_49.toInt < (((N49) + 1 : Nat) : Int))
    (c53 : ¬ ((30 : Int) ≤ l7_49.toInt))
    (c74 : ¬ ((cel (vw (G.2.1 (F p0 0))) ((G.1 q15 2).toInt) (l7_49.toInt) ((G.1 q15 3).toInt)) ≠ p3.toInt)) :
    LGo (aI (G_3.2.1 (F a 0))) (aI (G_3.2.1 (F a 1))) (aI (G_3.2.1 (F a 2))) ((G_3.1 a 3).toInt) (aI (G85.2.1 (F a 0))) (aI (G85.2.1 (F a 1))) (aI (G85.2.1 (F a 2))) ((G85.1 a 3).toInt) (fun u9 k9 => u9 = ((G.1 q15 2).toInt) ∧ k9 < (l7_49.toInt + 1) ∧ cel (vw (G.2.1 (F p0 0))) u9 k9 ((G.1 q15 3).toInt) = p3.toInt) := by
  first
    | (refine pk.tr oq85 (fun u9 k9 hi => ⟨fun h => ?_, fun h => ?_⟩)
       · obtain ⟨h1, h2, h3⟩ := h
         by_cases e : k9 = l7_49.toInt
         · exact Or.inr ⟨h1, e⟩
         · exact Or.inl ⟨h1, by omega, h3⟩
       · rcases h with ⟨h1, h2, h3⟩ | ⟨h1, h2⟩
         · exact ⟨h1, by omega, h3⟩
         · exact ⟨h1, by omega, by rw [h1, h2]; omega⟩)
    | (refine pk.cg (fun u9 k9 hi => ⟨fun h => ?_, fun h => ?_⟩)
       · obtain ⟨h1, h2, h3⟩ := h
         by_cases e : k9 = l7_49.toInt
         · rw [h1, e] at h3; exfalso; omega
         · exact ⟨h1, by omega, h3⟩
       · obtain ⟨h1, h2, h3⟩ := h
         exact ⟨h1, by omega, h3⟩)
theorem v_X3_reachFrom_47_8 {K : Nat → Nat} {F : Nat → Nat → Nat} (a : Nat) (p0 : Nat) (p1 : Nat) (q15 : Nat) (G : XG) (G_3 : XG) (l5_3 : Int32) (p2 : Int32) (p3 : Int32) (N3 : Nat)
    (ha : K a = 5)
    (hp0 : K p0 = 8)
    (hp1 : K p1 = 2)
    (li : LIv (aI (G.2.1 (F a 0))) (aI (G.2.1 (F a 1))) (aI (G.2.1 (F a 2))) ((G.1 a 3).toInt))
    (pl : LGo (aI (G.2.1 (F a 0))) (aI (G.2.1 (F a 1))) (aI (G.2.1 (F a 2))) ((G.1 a 3).toInt) (aI (G_3.2.1 (F a 0))) (aI (G_3.2.1 (F a 1))) (aI (G_3.2.1 (F a 2))) ((G_3.1 a 3).toInt) (fun u9 k9 => lnC G (G.2.2.1 (F p1 1)) (vw (G.2.1 (F p0 0))) l5_3.toInt u9 k9 p2.toInt p3.toInt))
    (hs15 : G_3.2.2.1 (F p1 1) (l5_3.toInt).toNat = some q15)
    (sb : 0 ≤ ((G.1 p1 2).toInt) ∧ ((G.1 p1 2).toInt) ≤ 12)
    (I3_0 : 0 ≤ l5_3.toInt ∧ l5_3.toInt ≤ ((G.1 p1 2).toInt))
    (hm3 : 2147483648 - l5_3.toInt < (((N3) + 1 : Nat) : Int))
    (c9 : ¬ (((G.1 p1 2).toInt) ≤ l5_3.toInt))
    (ht15 : 0 ≤ l5_3.toInt ∧ l5_3.toInt < ((G.1 p1 2).toInt) ∧ l5_3.toInt < 12)
    (c31 : ¬ (((G.1 q15 0).toInt) ≠ (1 : Int)))
    (c40 : ((G.1 q15 4).toInt) = p2.toInt) :
    LGo (aI (G_3.2.1 (F a 0))) (aI (G_3.2.1 (F a 1))) (aI (G_3.2.1 (F a 2))) ((G_3.1 a 3).toInt) (aI (G_3.2.1 (F a 0))) (aI (G_3.2.1 (F a 1))) (aI (G_3.2.1 (F a 2))) ((G_3.1 a 3).toInt) (fun u9 k9 => u9 = ((G.1 q15 2).toInt) ∧ k9 < (0 : Int) ∧ cel (vw (G.2.1 (F p0 0))) u9 k9 ((G.1 q15 3).toInt) = p3.toInt) := by
  exact LGo_same pl.1 (fun u9 k9 hi h => absurd h.2.1 (by have := hi.2; omega))
theorem v_X3_reachFrom_97_9 {K : Nat → Nat} {F : Nat → Nat → Nat} (a : Nat) (p0 : Nat) (p1 : Nat) (q15 : Nat) (G : XG) (G_3 : XG) (l5_3 : Int32) (p2 : Int32) (p3 : Int32) (N3 : Nat)
    (ha : K a = 5)
    (hp0 : K p0 = 8)
    (hp1 : K p1 = 2)
    (li : LIv (aI (G.2.1 (F a 0))) (aI (G.2.1 (F a 1))) (aI (G.2.1 (F a 2))) ((G.1 a 3).toInt))
    (pl : LGo (aI (G.2.1 (F a 0))) (aI (G.2.1 (F a 1))) (aI (G.2.1 (F a 2))) ((G.1 a 3).toInt) (aI (G_3.2.1 (F a 0))) (aI (G_3.2.1 (F a 1))) (aI (G_3.2.1 (F a 2))) ((G_3.1 a 3).toInt) (fun u9 k9 => lnC G (G.2.2.1 (F p1 1)) (vw (G.2.1 (F p0 0))) l5_3.toInt u9 k9 p2.toInt p3.toInt))
    (hs15 : G_3.2.2.1 (F p1 1) (l5_3.toInt).toNat = some q15)
    (sb : 0 ≤ ((G.1 p1 2).toInt) ∧ ((G.1 p1 2).toInt) ≤ 12)
    (I3_0 : 0 ≤ l5_3.toInt ∧ l5_3.toInt ≤ ((G.1 p1 2).toInt))
    (hm3 : 2147483648 - l5_3.toInt < (((N3) + 1 : Nat) : Int))
    (c9 : ¬ (((G.1 p1 2).toInt) ≤ l5_3.toInt))
    (ht15 : 0 ≤ l5_3.toInt ∧ l5_3.toInt < ((G.1 p1 2).toInt) ∧ l5_3.toInt < 12)
    (c31 : ¬ (((G.1 q15 0).toInt) ≠ (1 : Int)))
    (c40 : ¬ (((G.1 q15 4).toInt) = p2.toInt))
    (r_G_3_F_p1_1 : G_3.2.2.1 (F p1 1) = G.2.2.1 (F p1 1))
    (d_G_3_p1_2 : G_3.1 p1 2 = G.1 p1 2) :
    LGo (aI (G.2.1 (F a 0))) (aI (G.2.1 (F a 1))) (aI (G.2.1 (F a 2))) ((G.1 a 3).toInt) (aI (G_3.2.1 (F a 0))) (aI (G_3.2.1 (F a 1))) (aI (G_3.2.1 (F a 2))) ((G_3.1 a 3).toInt) (fun u9 k9 => lnC G (G.2.2.1 (F p1 1)) (vw (G.2.1 (F p0 0))) (l5_3.toInt + 1) u9 k9 p2.toInt p3.toInt) := by
  first
    | (refine pl.cg (fun u9 k9 _ => (lnC_s (by omega)).trans ⟨fun h => h.elim id (fun h9 => ?_), Or.inl⟩)
       obtain ⟨q9, e1, -⟩ := h9
       rcases hn15 with h | h
       · rw [d_G_3_p1_2] at h; exfalso; omega
       · rw [r_G_3_F_p1_1] at h
         rw [h] at e1
         cases e1)
    | (refine pl.cg (fun u9 k9 _ => (lnC_s (by omega)).trans ⟨fun h => h.elim id (fun h9 => ?_), Or.inl⟩)
       obtain ⟨q9, e1, e2, e3, -⟩ := h9
       rw [r_G_3_F_p1_1] at hs15
       rw [hs15] at e1
       cases e1
       exfalso; omega)
    | (refine pl.tr pk (fun u9 k9 hi => (lnC_s (by omega)).trans ⟨fun h => h.imp id (fun h9 => ?_), fun h => h.imp id (fun h9 => ?_)⟩)
       · obtain ⟨q9, e1, e2, e3, e4, e5⟩ := h9
         rw [r_G_3_F_p1_1] at hs15
         rw [hs15] at e1
         cases e1
         exact ⟨e4.symm, by have := hi.2; omega, e5⟩
       · obtain ⟨e4, -, e5⟩ := h9
         exact ⟨q15, by rw [← r_G_3_F_p1_1]; exact hs15, by omega, by omega, e4.symm, e5⟩)
theorem v_X3_reachFrom_1_10 {K : Nat → Nat} {F : Nat → Nat → Nat} (a : Nat) (p0 : Nat) (p1 : Nat) (G : XG) (p2 : Int32) (p3 : Int32)
    (ha : K a = 5)
    (hp0 : K p0 = 8)
    (hp1 : K p1 = 2)
    (li : LIv (aI (G.2.1 (F a 0))) (aI (G.2.1 (F a 1))) (aI (G.2.1 (F a 2))) ((G.1 a 3).toInt))
    (sb : 0 ≤ ((G.1 p1 2).toInt) ∧ ((G.1 p1 2).toInt) ≤ 12) :
    LGo (aI (G.2.1 (F a 0))) (aI (G.2.1 (F a 1))) (aI (G.2.1 (F a 2))) ((G.1 a 3).toInt) (aI (G.2.1 (F a 0))) (aI (G.2.1 (F a 1))) (aI (G.2.1 (F a 2))) ((G.1 a 3).toInt) (fun u9 k9 => lnC G (G.2.2.1 (F p1 1)) (vw (G.2.1 (F p0 0))) (0 : Int) u9 k9 p2.toInt p3.toInt) := by
  exact LGo_same li (fun u9 k9 _ h => absurd h (lnC_0 (by omega)))
theorem v_X3_straight_10_1 {F : Nat → Nat → Nat} (G1 : XG) (a : Nat)
    (oq1 : ∀ t : Int, 0 ≤ t → t < 3 → aI (G1.2.1 (F a 0)) t = 0)
    (t1 : ((G1.1 a 3).toInt) = 0) :
    LIv (aI (G1.2.1 (F a 0))) (aI (G1.2.1 (F a 1))) (aI (G1.2.1 (F a 2))) ((G1.1 a 3).toInt) := by
  exact LIv_0 oq1 t1
theorem v_X3_straight_17_2 {K : Nat → Nat} {F : Nat → Nat → Nat} (a : Nat) (p0 : Nat) (p1 : Nat) (G : XG) (G1 : XG) (G10 : XG) (p2 : Int32) (p3 : Int32)
    (ha : K a = 5)
    (hp0 : K p0 = 8)
    (hp1 : K p1 = 2)
    (hk9999 : K (F a 0) = 21)
    (hj9999 : F (F a 0) 99 = 102)
    (hk9999a : K (F a 1) = 24)
    (hj9999a : F (F a 1) 99 = 5)
    (hk9999b : K (F a 2) = 24)
    (hj9999b : F (F a 2) 99 = 6)
    (hk9999c : K (F p1 1) = 15)
    (hj9999c : F (F p1 1) 99 = 1)
    (hk9999d : K (F p0 0) = 20)
    (hj9999d : F (F p0 0) 99 = F p0 99)
    (hF1 : XFr [(a, 3)] [F a 0] [] G G1)
    (bko : BKr K G (G.2.2.1 (F p1 1)))
    (oq1 : ∀ t : Int, 0 ≤ t → t < 3 → aI (G1.2.1 (F a 0)) t = 0)
    (oq10 : LGo (aI (G1.2.1 (F a 0))) (aI (G.2.1 (F a 1))) (aI (G.2.1 (F a 2))) ((G1.1 a 3).toInt) (aI (G10.2.1 (F a 0))) (aI (G10.2.1 (F a 1))) (aI (G10.2.1 (F a 2))) ((G10.1 a 3).toInt) (fun u9 k9 => lnC G1 (G1.2.2.1 (F p1 1)) (vw (G.2.1 (F p0 0))) ((G.1 p1 2).toInt) u9 k9 p2.toInt p3.toInt))
    (sb : 0 ≤ ((G.1 p1 2).toInt) ∧ ((G.1 p1 2).toInt) ≤ 12)
    (t1 : ((G1.1 a 3).toInt) = 0)
    (r_G1_F_p1_1 : G1.2.2.1 (F p1 1) = G.2.2.1 (F p1 1)) :
    ∃ b : Int → Int, ((G10.1 a 3).toInt) = toB b 3 ∧ ∀ t j : Int, inR t j → (bI (b t) j = 1 ↔ lnC G (G.2.2.1 (F p1 1)) (vw (G.2.1 (F p0 0))) ((G.1 p1 2).toInt) t j p2.toInt p3.toInt) := by
  have hd0 : ∀ p, p ∈ [(a, 3)] → K p.1 ≠ 9 := (List.forall_mem_cons.mpr ⟨(show K a ≠ 9 by omega), fun _ h => by cases h⟩)
  have hc : ∀ i q : Nat, i < 12 → G.2.2.1 (F p1 1) i = some q → G1.1 q = G.1 q := fun i q hi hq => hF1.rule hd0 (bko i q hi hq).1
  rw [r_G1_F_p1_1] at oq10
  obtain ⟨h1, -, -, h4⟩ := oq10
  try dsimp only at h4
  refine ⟨aI (G10.2.1 (F a 0)), h1.1, fun t j hi => ?_⟩
  rw [h4 t j hi, lnC_cg (show (G.1 p1 2).toInt ≤ 12 by omega) hc, oq1 t hi.1.1 hi.1.2, bI_0]
  constructor
  · rintro (h | h)
    · exact absurd h (by decide)
    · exact h
  · exact Or.inr
theorem v_X3_straightOrNot_8_1 {F : Nat → Nat → Nat} (G1 : XG) (a : Nat)
    (oq1 : ∀ t : Int, 0 ≤ t → t < 3 → aI (G1.2.1 (F a 0)) t = 0)
    (t1 : ((G1.1 a 3).toInt) = 0) :
    LIv (aI (G1.2.1 (F a 0))) (aI (G1.2.1 (F a 1))) (aI (G1.2.1 (F a 2))) ((G1.1 a 3).toInt) := by
  exact LIv_0 oq1 t1
theorem v_X3_straightOrNot_62_2 {K : Nat → Nat} {F : Nat → Nat → Nat} (a : Nat) (p0 : Nat) (p1 : Nat) (G : XG) (G_14 : XG) (G1 : XG) (G8 : XG) (p2 : Int32) (p3 : Int32) (l5_14 : Int32) (N14 : Nat)
    (ha : K a = 5)
    (hp0 : K p0 = 8)
    (hp1 : K p1 = 2)
    (oq8 : LGo (aI (G1.2.1 (F a 0))) (aI (G.2.1 (F a 1))) (aI (G.2.1 (F a 2))) ((G1.1 a 3).toInt) (aI (G8.2.1 (F a 0))) (aI (G8.2.1 (F a 1))) (aI (G8.2.1 (F a 2))) ((G8.1 a 3).toInt) (fun u9 k9 => u9 = p2.toInt ∧ k9 = p3.toInt))
    (pv : LIv (aI (G_14.2.1 (F a 0))) (aI (G_14.2.1 (F a 1))) (aI (G_14.2.1 (F a 2))) ((G_14.1 a 3).toInt))
    (ps : bI ((aI (G_14.2.1 (F a 0))) p2.toInt) p3.toInt = 1)
    (pr : ∀ t j : Int, inR t j → bI ((aI (G_14.2.1 (F a 0))) t) j = 1 → RCH (lnC G (G.2.2.1 (F p1 1)) (vw (G.2.1 (F p0 0))) ((G.1 p1 2).toInt)) p2.toInt p3.toInt t j)
    (pc : ∀ z : Int, 0 ≤ z → z < l5_14.toInt → ∀ t j : Int, inR t j → lnC G (G.2.2.1 (F p1 1)) (vw (G.2.1 (F p0 0))) ((G.1 p1 2).toInt) t j ((aI (G_14.2.1 (F a 1))) z) ((aI (G_14.2.1 (F a 2))) z) → bI ((aI (G_14.2.1 (F a 0))) t) j = 1)
    (sb : 0 ≤ ((G.1 p1 2).toInt) ∧ ((G.1 p1 2).toInt) ≤ 12)
    (e0 : 0 ≤ p2.toInt ∧ p2.toInt < 3 ∧ 0 ≤ p3.toInt ∧ p3.toInt < 30)
    (t1 : ((G1.1 a 3).toInt) = 0)
    (I14_0 : 0 ≤ l5_14.toInt ∧ l5_14.toInt ≤ 90)
    (hm14 : 100 - l5_14.toInt < (((N14) + 1 : Nat) : Int))
    (c20 : ((G_14.1 a 3).toInt) ≤ l5_14.toInt)
    (z56 : 0 ≤ ((G_14.1 a 3).toInt) ∧ ((G_14.1 a 3).toInt) ≤ 90) :
    ∃ b : Int → Int, (((G_14.1 a 3).toInt) - (1 : Int)) = toB b 3 - 1 ∧ ∀ t j : Int, inR t j → (bI (b t) j = 1 ↔ RCH (lnC G (G.2.2.1 (F p1 1)) (vw (G.2.1 (F p0 0))) ((G.1 p1 2).toInt)) p2.toInt p3.toInt t j) := by
  have hb := pv.b
  exact ⟨aI (G_14.2.1 (F a 0)), by rw [← pv.1], reach_all pv (i := l5_14.toInt) (by omega) ps pr pc ⟨by omega, by omega⟩⟩
theorem v_X3_straightOrNot_62_3 {K : Nat → Nat} {F : Nat → Nat → Nat} (a : Nat) (p0 : Nat) (p1 : Nat) (G : XG) (G_14 : XG) (G1 : XG) (G8 : XG) (p2 : Int32) (p3 : Int32) (l5_14 : Int32) (N14 : Nat)
    (ha : K a = 5)
    (hp0 : K p0 = 8)
    (hp1 : K p1 = 2)
    (oq8 : LGo (aI (G1.2.1 (F a 0))) (aI (G.2.1 (F a 1))) (aI (G.2.1 (F a 2))) ((G1.1 a 3).toInt) (aI (G8.2.1 (F a 0))) (aI (G8.2.1 (F a 1))) (aI (G8.2.1 (F a 2))) ((G8.1 a 3).toInt) (fun u9 k9 => u9 = p2.toInt ∧ k9 = p3.toInt))
    (pv : LIv (aI (G_14.2.1 (F a 0))) (aI (G_14.2.1 (F a 1))) (aI (G_14.2.1 (F a 2))) ((G_14.1 a 3).toInt))
    (ps : bI ((aI (G_14.2.1 (F a 0))) p2.toInt) p3.toInt = 1)
    (pr : ∀ t j : Int, inR t j → bI ((aI (G_14.2.1 (F a 0))) t) j = 1 → RCH (lnC G (G.2.2.1 (F p1 1)) (vw (G.2.1 (F p0 0))) ((G.1 p1 2).toInt)) p2.toInt p3.toInt t j)
    (pc : ∀ z : Int, 0 ≤ z → z < l5_14.toInt → ∀ t j : Int, inR t j → lnC G (G.2.2.1 (F p1 1)) (vw (G.2.1 (F p0 0))) ((G.1 p1 2).toInt) t j ((aI (G_14.2.1 (F a 1))) z) ((aI (G_14.2.1 (F a 2))) z) → bI ((aI (G_14.2.1 (F a 0))) t) j = 1)
    (sb : 0 ≤ ((G.1 p1 2).toInt) ∧ ((G.1 p1 2).toInt) ≤ 12)
    (e0 : 0 ≤ p2.toInt ∧ p2.toInt < 3 ∧ 0 ≤ p3.toInt ∧ p3.toInt < 30)
    (t1 : ((G1.1 a 3).toInt) = 0)
    (I14_0 : 0 ≤ l5_14.toInt ∧ l5_14.toInt ≤ 90)
    (hm14 : 100 - l5_14.toInt < (((N14) + 1 : Nat) : Int))
    (c20 : ¬ (((G_14.1 a 3).toInt) ≤ l5_14.toInt))
    (c27 : (90 : Int) ≤ l5_14.toInt)
    (z56 : 0 ≤ ((G_14.1 a 3).toInt) ∧ ((G_14.1 a 3).toInt) ≤ 90) :
    ∃ b : Int → Int, (((G_14.1 a 3).toInt) - (1 : Int)) = toB b 3 - 1 ∧ ∀ t j : Int, inR t j → (bI (b t) j = 1 ↔ RCH (lnC G (G.2.2.1 (F p1 1)) (vw (G.2.1 (F p0 0))) ((G.1 p1 2).toInt)) p2.toInt p3.toInt t j) := by
  have hb := pv.b
  exact ⟨aI (G_14.2.1 (F a 0)), by rw [← pv.1], reach_all pv (i := l5_14.toInt) (by omega) ps pr pc ⟨by omega, by omega⟩⟩
theorem v_X3_straightOrNot_47_4 {F : Nat → Nat → Nat} (G_14 : XG) (a : Nat)
    (pv : LIv (aI (G_14.2.1 (F a 0))) (aI (G_14.2.1 (F a 1))) (aI (G_14.2.1 (F a 2))) ((G_14.1 a 3).toInt)) :
    LIv (aI (G_14.2.1 (F a 0))) (aI (G_14.2.1 (F a 1))) (aI (G_14.2.1 (F a 2))) ((G_14.1 a 3).toInt) := by
  exact pv
theorem v_X3_straightOrNot_53_5 {F : Nat → Nat → Nat} (G_14 : XG) (a : Nat) (G47 : XG) (p1 : Nat) (G : XG) (p0 : Nat) (l5_14 : Int32)
    (oq47 : LGo (aI (G_14.2.1 (F a 0))) (aI (G_14.2.1 (F a 1))) (aI (G_14.2.1 (F a 2))) ((G_14.1 a 3).toInt) (aI (G47.2.1 (F a 0))) (aI (G47.2.1 (F a 1))) (aI (G47.2.1 (F a 2))) ((G47.1 a 3).toInt) (fun u9 k9 => lnC G_14 (G_14.2.2.1 (F p1 1)) (vw (G.2.1 (F p0 0))) ((G.1 p1 2).toInt) u9 k9 (aI (G_14.2.1 (F a 1)) (l5_14.toInt)) (aI (G_14.2.1 (F a 2)) (l5_14.toInt)))) :
    LIv (aI (G47.2.1 (F a 0))) (aI (G47.2.1 (F a 1))) (aI (G47.2.1 (F a 2))) ((G47.1 a 3).toInt) := by
  exact oq47.1
theorem v_X3_straightOrNot_53_6 {K : Nat → Nat} {F : Nat → Nat → Nat} (a : Nat) (p0 : Nat) (p1 : Nat) (G : XG) (G47 : XG) (G1 : XG) (G8 : XG) (G_14 : XG) (p2 : Int32) (p3 : Int32) (l5_14 : Int32) (N14 : Nat)
    (ha : K a = 5)
    (hp0 : K p0 = 8)
    (hp1 : K p1 = 2)
    (oq8 : LGo (aI (G1.2.1 (F a 0))) (aI (G.2.1 (F a 1))) (aI (G.2.1 (F a 2))) ((G1.1 a 3).toInt) (aI (G8.2.1 (F a 0))) (aI (G8.2.1 (F a 1))) (aI (G8.2.1 (F a 2))) ((G8.1 a 3).toInt) (fun u9 k9 => u9 = p2.toInt ∧ k9 = p3.toInt))
    (pv : LIv (aI (G_14.2.1 (F a 0))) (aI (G_14.2.1 (F a 1))) (aI (G_14.2.1 (F a 2))) ((G_14.1 a 3).toInt))
    (ps : bI ((aI (G_14.2.1 (F a 0))) p2.toInt) p3.toInt = 1)
    (oq47 : LGo (aI (G_14.2.1 (F a 0))) (aI (G_14.2.1 (F a 1))) (aI (G_14.2.1 (F a 2))) ((G_14.1 a 3).toInt) (aI (G47.2.1 (F a 0))) (aI (G47.2.1 (F a 1))) (aI (G47.2.1 (F a 2))) ((G47.1 a 3).toInt) (fun u9 k9 => lnC G_14 (G_14.2.2.1 (F p1 1)) (vw (G.2.1 (F p0 0))) ((G.1 p1 2).toInt) u9 k9 (aI (G_14.2.1 (F a 1)) (l5_14.toInt)) (aI (G_14.2.1 (F a 2)) (l5_14.toInt))))
    (sb : 0 ≤ ((G.1 p1 2).toInt) ∧ ((G.1 p1 2).toInt) ≤ 12)
    (e0 : 0 ≤ p2.toInt ∧ p2.toInt < 3 ∧ 0 ≤ p3.toInt ∧ p3.toInt < 30)
    (t1 : ((G1.1 a 3).toInt) = 0)
    (I14_0 : 0 ≤ l5_14.toInt ∧ l5_14.toInt ≤ 90)
    (hm14 : 100 - l5_14.toInt < (((N14) + 1 : Nat) : Int))
    (c20 : ¬ (((G_14.1 a 3).toInt) ≤ l5_14.toInt))
    (c27 : ¬ ((90 : Int) ≤ l5_14.toInt)) :
    bI ((aI (G47.2.1 (F a 0))) p2.toInt) p3.toInt = 1 := by
  exact (oq47.2.2.2 _ _ ⟨by omega, by omega⟩).mpr (Or.inl ps)
theorem v_X3_straightOrNot_53_7 {K : Nat → Nat} {F : Nat → Nat → Nat} (a : Nat) (p0 : Nat) (p1 : Nat) (G : XG) (G47 : XG) (G1 : XG) (G8 : XG) (G_14 : XG) (p2 : Int32) (p3 : Int32) (l5_14 : Int32) (N14 : Nat)
    (ha : K a = 5)
    (hp0 : K p0 = 8)
    (hp1 : K p1 = 2)
    (hk9999 : K (F a 0) = 21)
    (hj9999 : F (F a 0) 99 = 102)
    (hk9999a : K (F a 1) = 24)
    (hj9999a : F (F a 1) 99 = 5)
    (hk9999b : K (F a 2) = 24)
    (hj9999b : F (F a 2) 99 = 6)
    (hk9999c : K (F p1 1) = 15)
    (hj9999c : F (F p1 1) 99 = 1)
    (hk9999d : K (F p0 0) = 20)
    (hj9999d : F (F p0 0) 99 = F p0 99)
    (hF1 : XFr [(a, 3)] [F a 0] [] G G1)
    (hF8 : XFr [(a, 3)] [F a 0, F a 1, F a 2] [] G1 G8)
    (hF_14 : XFr [(a, 3)] [F a 0, F a 1, F a 2] [] G8 G_14)
    (bko : BKr K G (G.2.2.1 (F p1 1)))
    (oq8 : LGo (aI (G1.2.1 (F a 0))) (aI (G.2.1 (F a 1))) (aI (G.2.1 (F a 2))) ((G1.1 a 3).toInt) (aI (G8.2.1 (F a 0))) (aI (G8.2.1 (F a 1))) (aI (G8.2.1 (F a 2))) ((G8.1 a 3).toInt) (fun u9 k9 => u9 = p2.toInt ∧ k9 = p3.toInt))
    (pv : LIv (aI (G_14.2.1 (F a 0))) (aI (G_14.2.1 (F a 1))) (aI (G_14.2.1 (F a 2))) ((G_14.1 a 3).toInt))
    (ps : bI ((aI (G_14.2.1 (F a 0))) p2.toInt) p3.toInt = 1)
    (pr : ∀ t j : Int, inR t j → bI ((aI (G_14.2.1 (F a 0))) t) j = 1 → RCH (lnC G (G.2.2.1 (F p1 1)) (vw (G.2.1 (F p0 0))) ((G.1 p1 2).toInt)) p2.toInt p3.toInt t j)
    (oq47 : LGo (aI (G_14.2.1 (F a 0))) (aI (G_14.2.1 (F a 1))) (aI (G_14.2.1 (F a 2))) ((G_14.1 a 3).toInt) (aI (G47.2.1 (F a 0))) (aI (G47.2.1 (F a 1))) (aI (G47.2.1 (F a 2))) ((G47.1 a 3).toInt) (fun u9 k9 => lnC G_14 (G_14.2.2.1 (F p1 1)) (vw (G.2.1 (F p0 0))) ((G.1 p1 2).toInt) u9 k9 (aI (G_14.2.1 (F a 1)) (l5_14.toInt)) (aI (G_14.2.1 (F a 2)) (l5_14.toInt))))
    (sb : 0 ≤ ((G.1 p1 2).toInt) ∧ ((G.1 p1 2).toInt) ≤ 12)
    (e0 : 0 ≤ p2.toInt ∧ p2.toInt < 3 ∧ 0 ≤ p3.toInt ∧ p3.toInt < 30)
    (t1 : ((G1.1 a 3).toInt) = 0)
    (I14_0 : 0 ≤ l5_14.toInt ∧ l5_14.toInt ≤ 90)
    (hm14 : 100 - l5_14.toInt < (((N14) + 1 : Nat) : Int))
    (c20 : ¬ (((G_14.1 a 3).toInt) ≤ l5_14.toInt))
    (c27 : ¬ ((90 : Int) ≤ l5_14.toInt))
    (r_G_14_F_p1_1 : G_14.2.2.1 (F p1 1) = G.2.2.1 (F p1 1)) :
    ∀ t j : Int, inR t j → bI ((aI (G47.2.1 (F a 0))) t) j = 1 → RCH (lnC G (G.2.2.1 (F p1 1)) (vw (G.2.1 (F p0 0))) ((G.1 p1 2).toInt)) p2.toInt p3.toInt t j := by
  have hd0 : ∀ p, p ∈ [(a, 3)] → K p.1 ≠ 9 := (List.forall_mem_cons.mpr ⟨(show K a ≠ 9 by omega), fun _ h => by cases h⟩)
  have hc : ∀ i q : Nat, i < 12 → G.2.2.1 (F p1 1) i = some q → G_14.1 q = G.1 q := fun i q hi hq => (hF_14.rule hd0 (bko i q hi hq).1).trans ((hF8.rule hd0 (bko i q hi hq).1).trans (hF1.rule hd0 (bko i q hi hq).1))
  rw [r_G_14_F_p1_1] at oq47
  obtain ⟨g1, g2, g3, g4⟩ := oq47
  try dsimp only at g4
  have g5 : ∀ t j : Int, inR t j → (bI (aI (G47.2.1 (F a 0)) t) j = 1 ↔ bI (aI (G_14.2.1 (F a 0)) t) j = 1 ∨ lnC G (G.2.2.1 (F p1 1)) (vw (G.2.1 (F p0 0))) ((G.1 p1 2).toInt) t j (aI (G_14.2.1 (F a 1)) l5_14.toInt) (aI (G_14.2.1 (F a 2)) l5_14.toInt)) := fun t j hi => by rw [g4 t j hi, lnC_cg (show (G.1 p1 2).toInt ≤ 12 by omega) hc]
  intro t j hi h
  rcases (g5 t j hi).mp h with h | h
  · exact pr t j hi h
  · obtain ⟨k1, k2⟩ := pv.2.1 l5_14.toInt (by omega) (by omega)
    exact (pr _ _ k1 k2).go hi h
theorem v_X3_straightOrNot_53_8 {K : Nat → Nat} {F : Nat → Nat → Nat} (a : Nat) (p0 : Nat) (p1 : Nat) (G : XG) (G47 : XG) (G1 : XG) (G8 : XG) (G_14 : XG) (p2 : Int32) (p3 : Int32) (l5_14 : Int32) (N14 : Nat)
    (ha : K a = 5)
    (hp0 : K p0 = 8)
    (hp1 : K p1 = 2)
    (hk9999 : K (F a 0) = 21)
    (hj9999 : F (F a 0) 99 = 102)
    (hk9999a : K (F a 1) = 24)
    (hj9999a : F (F a 1) 99 = 5)
    (hk9999b : K (F a 2) = 24)
    (hj9999b : F (F a 2) 99 = 6)
    (hk9999c : K (F p1 1) = 15)
    (hj9999c : F (F p1 1) 99 = 1)
    (hk9999d : K (F p0 0) = 20)
    (hj9999d : F (F p0 0) 99 = F p0 99)
    (hF1 : XFr [(a, 3)] [F a 0] [] G G1)
    (hF8 : XFr [(a, 3)] [F a 0, F a 1, F a 2] [] G1 G8)
    (hF_14 : XFr [(a, 3)] [F a 0, F a 1, F a 2] [] G8 G_14)
    (bko : BKr K G (G.2.2.1 (F p1 1)))
    (oq8 : LGo (aI (G1.2.1 (F a 0))) (aI (G.2.1 (F a 1))) (aI (G.2.1 (F a 2))) ((G1.1 a 3).toInt) (aI (G8.2.1 (F a 0))) (aI (G8.2.1 (F a 1))) (aI (G8.2.1 (F a 2))) ((G8.1 a 3).toInt) (fun u9 k9 => u9 = p2.toInt ∧ k9 = p3.toInt))
    (pv : LIv (aI (G_14.2.1 (F a 0))) (aI (G_14.2.1 (F a 1))) (aI (G_14.2.1 (F a 2))) ((G_14.1 a 3).toInt))
    (ps : bI ((aI (G_14.2.1 (F a 0))) p2.toInt) p3.toInt = 1)
    (pc : ∀ z : Int, 0 ≤ z → z < l5_14.toInt → ∀ t j : Int, inR t j → lnC G (G.2.2.1 (F p1 1)) (vw (G.2.1 (F p0 0))) ((G.1 p1 2).toInt) t j ((aI (G_14.2.1 (F a 1))) z) ((aI (G_14.2.1 (F a 2))) z) → bI ((aI (G_14.2.1 (F a 0))) t) j = 1)
    (oq47 : LGo (aI (G_14.2.1 (F a 0))) (aI (G_14.2.1 (F a 1))) (aI (G_14.2.1 (F a 2))) ((G_14.1 a 3).toInt) (aI (G47.2.1 (F a 0))) (aI (G47.2.1 (F a 1))) (aI (G47.2.1 (F a 2))) ((G47.1 a 3).toInt) (fun u9 k9 => lnC G_14 (G_14.2.2.1 (F p1 1)) (vw (G.2.1 (F p0 0))) ((G.1 p1 2).toInt) u9 k9 (aI (G_14.2.1 (F a 1)) (l5_14.toInt)) (aI (G_14.2.1 (F a 2)) (l5_14.toInt))))
    (sb : 0 ≤ ((G.1 p1 2).toInt) ∧ ((G.1 p1 2).toInt) ≤ 12)
    (e0 : 0 ≤ p2.toInt ∧ p2.toInt < 3 ∧ 0 ≤ p3.toInt ∧ p3.toInt < 30)
    (t1 : ((G1.1 a 3).toInt) = 0)
    (I14_0 : 0 ≤ l5_14.toInt ∧ l5_14.toInt ≤ 90)
    (hm14 : 100 - l5_14.toInt < (((N14) + 1 : Nat) : Int))
    (c20 : ¬ (((G_14.1 a 3).toInt) ≤ l5_14.toInt))
    (c27 : ¬ ((90 : Int) ≤ l5_14.toInt))
    (r_G_14_F_p1_1 : G_14.2.2.1 (F p1 1) = G.2.2.1 (F p1 1)) :
    ∀ z : Int, 0 ≤ z → z < (l5_14.toInt + 1) → ∀ t j : Int, inR t j → lnC G (G.2.2.1 (F p1 1)) (vw (G.2.1 (F p0 0))) ((G.1 p1 2).toInt) t j ((aI (G47.2.1 (F a 1))) z) ((aI (G47.2.1 (F a 2))) z) → bI ((aI (G47.2.1 (F a 0))) t) j = 1 := by
  have hd0 : ∀ p, p ∈ [(a, 3)] → K p.1 ≠ 9 := (List.forall_mem_cons.mpr ⟨(show K a ≠ 9 by omega), fun _ h => by cases h⟩)
  have hc : ∀ i q : Nat, i < 12 → G.2.2.1 (F p1 1) i = some q → G_14.1 q = G.1 q := fun i q hi hq => (hF_14.rule hd0 (bko i q hi hq).1).trans ((hF8.rule hd0 (bko i q hi hq).1).trans (hF1.rule hd0 (bko i q hi hq).1))
  rw [r_G_14_F_p1_1] at oq47
  obtain ⟨g1, g2, g3, g4⟩ := oq47
  try dsimp only at g4
  have g5 : ∀ t j : Int, inR t j → (bI (aI (G47.2.1 (F a 0)) t) j = 1 ↔ bI (aI (G_14.2.1 (F a 0)) t) j = 1 ∨ lnC G (G.2.2.1 (F p1 1)) (vw (G.2.1 (F p0 0))) ((G.1 p1 2).toInt) t j (aI (G_14.2.1 (F a 1)) l5_14.toInt) (aI (G_14.2.1 (F a 2)) l5_14.toInt)) := fun t j hi => by rw [g4 t j hi, lnC_cg (show (G.1 p1 2).toInt ≤ 12 by omega) hc]
  intro z z0 z1 t j hi hl
  have g6 := g3 z z0 (by omega)
  rw [g6.1, g6.2] at hl
  by_cases e : z = l5_14.toInt
  · rw [e] at hl
    exact (g5 t j hi).mpr (Or.inr hl)
  · exact (g5 t j hi).mpr (Or.inl (pc z z0 (by omega) t j hi hl))
theorem v_X3_straightOrNot_12_9 {F : Nat → Nat → Nat} (G1 : XG) (a : Nat) (G : XG) (G8 : XG) (p2 : Int32) (p3 : Int32)
    (oq8 : LGo (aI (G1.2.1 (F a 0))) (aI (G.2.1 (F a 1))) (aI (G.2.1 (F a 2))) ((G1.1 a 3).toInt) (aI (G8.2.1 (F a 0))) (aI (G8.2.1 (F a 1))) (aI (G8.2.1 (F a 2))) ((G8.1 a 3).toInt) (fun u9 k9 => u9 = p2.toInt ∧ k9 = p3.toInt)) :
    LIv (aI (G8.2.1 (F a 0))) (aI (G8.2.1 (F a 1))) (aI (G8.2.1 (F a 2))) ((G8.1 a 3).toInt) := by
  exact oq8.1
theorem v_X3_straightOrNot_12_10 {K : Nat → Nat} {F : Nat → Nat → Nat} (a : Nat) (p0 : Nat) (p1 : Nat) (G : XG) (G8 : XG) (G1 : XG) (p2 : Int32) (p3 : Int32)
    (ha : K a = 5)
    (hp0 : K p0 = 8)
    (hp1 : K p1 = 2)
    (oq8 : LGo (aI (G1.2.1 (F a 0))) (aI (G.2.1 (F a 1))) (aI (G.2.1 (F a 2))) ((G1.1 a 3).toInt) (aI (G8.2.1 (F a 0))) (aI (G8.2.1 (F a 1))) (aI (G8.2.1 (F a 2))) ((G8.1 a 3).toInt) (fun u9 k9 => u9 = p2.toInt ∧ k9 = p3.toInt))
    (sb : 0 ≤ ((G.1 p1 2).toInt) ∧ ((G.1 p1 2).toInt) ≤ 12)
    (e0 : 0 ≤ p2.toInt ∧ p2.toInt < 3 ∧ 0 ≤ p3.toInt ∧ p3.toInt < 30)
    (t1 : ((G1.1 a 3).toInt) = 0) :
    bI ((aI (G8.2.1 (F a 0))) p2.toInt) p3.toInt = 1 := by
  exact (oq8.2.2.2 _ _ ⟨by omega, by omega⟩).mpr (Or.inr ⟨rfl, rfl⟩)
theorem v_X3_straightOrNot_12_11 {F : Nat → Nat → Nat} (a : Nat) (p0 : Nat) (p1 : Nat) (G : XG) (G8 : XG) (G1 : XG) (p2 : Int32) (p3 : Int32)
    (oq1 : ∀ t : Int, 0 ≤ t → t < 3 → aI (G1.2.1 (F a 0)) t = 0)
    (oq8 : LGo (aI (G1.2.1 (F a 0))) (aI (G.2.1 (F a 1))) (aI (G.2.1 (F a 2))) ((G1.1 a 3).toInt) (aI (G8.2.1 (F a 0))) (aI (G8.2.1 (F a 1))) (aI (G8.2.1 (F a 2))) ((G8.1 a 3).toInt) (fun u9 k9 => u9 = p2.toInt ∧ k9 = p3.toInt)) :
    ∀ t j : Int, inR t j → bI ((aI (G8.2.1 (F a 0))) t) j = 1 → RCH (lnC G (G.2.2.1 (F p1 1)) (vw (G.2.1 (F p0 0))) ((G.1 p1 2).toInt)) p2.toInt p3.toInt t j := by
  intro t j hi h
  rcases (oq8.2.2.2 t j hi).mp h with h | ⟨e1, e2⟩
  · rw [oq1 t hi.1.1 hi.1.2, bI_0] at h
    exact absurd h (by decide)
  · rw [e1, e2]
    exact RCH.self _ _ _
theorem v_X3_straightOrNot_12_12 {K : Nat → Nat} {F : Nat → Nat → Nat} (a : Nat) (p0 : Nat) (p1 : Nat) (G : XG) (G8 : XG) (G1 : XG) (p2 : Int32) (p3 : Int32)
    (ha : K a = 5)
    (hp0 : K p0 = 8)
    (hp1 : K p1 = 2)
    (oq8 : LGo (aI (G1.2.1 (F a 0))) (aI (G.2.1 (F a 1))) (aI (G.2.1 (F a 2))) ((G1.1 a 3).toInt) (aI (G8.2.1 (F a 0))) (aI (G8.2.1 (F a 1))) (aI (G8.2.1 (F a 2))) ((G8.1 a 3).toInt) (fun u9 k9 => u9 = p2.toInt ∧ k9 = p3.toInt))
    (sb : 0 ≤ ((G.1 p1 2).toInt) ∧ ((G.1 p1 2).toInt) ≤ 12)
    (e0 : 0 ≤ p2.toInt ∧ p2.toInt < 3 ∧ 0 ≤ p3.toInt ∧ p3.toInt < 30)
    (t1 : ((G1.1 a 3).toInt) = 0) :
    ∀ z : Int, 0 ≤ z → z < (0 : Int) → ∀ t j : Int, inR t j → lnC G (G.2.2.1 (F p1 1)) (vw (G.2.1 (F p0 0))) ((G.1 p1 2).toInt) t j ((aI (G8.2.1 (F a 1))) z) ((aI (G8.2.1 (F a 2))) z) → bI ((aI (G8.2.1 (F a 0))) t) j = 1 := by
  intro z z0 z1
  exact absurd z0 (by omega)
theorem v_X10_leans_6_1 {F : Nat → Nat → Nat} (a : Nat) (G : XG)
    (ron : RO (vw (G.2.1 (F (F a 3) 0))) (aI (G.2.1 (F (F a 3) 1)))) :
    RO (vw (G.2.1 (F (F a 3) 0))) (aI (G.2.1 (F (F a 3) 1))) := by exact ron
theorem v_X10_leans_77_2 {K : Nat → Nat} {F : Nat → Nat → Nat} (a : Nat) (G : XG) (p0 : Int32) (p1 : Int32) (x6 : Int32) (p2 : Int32)
    (ha : K a = 12)
    (sb : 0 ≤ ((G.1 (F a 2) 2).toInt) ∧ ((G.1 (F a 2) 2).toInt) ≤ 12)
    (z5 : ¬ (0 ≤ p0.toInt ∧ p0.toInt < 3 ∧ 0 ≤ p1.toInt ∧ p1.toInt < 30) → (cel (vw (G.2.1 (F (F a 3) 0))) (p0.toInt) (p1.toInt) 0) = -2000)
    (t6 : (x6.toInt = 1 ∧ (cel (vw (G.2.1 (F (F a 3) 0))) (p0.toInt) (p1.toInt) 0) ≠ -2000) ∨ (x6.toInt = 0 ∧ (cel (vw (G.2.1 (F (F a 3) 0))) (p0.toInt) (p1.toInt) 0) = -2000))
    (c9 : x6.toInt ≠ 0)
    (c15 : ¬ p2.toInt = 0 ∧ ¬ p2.toInt = 1) :
    ((cel (vw (G.2.1 (F (F a 3) 0))) p0.toInt p1.toInt 0 = -2000 ∨ (p2.toInt ≠ 0 ∧ p2.toInt ≠ 1)) ∧ (-1 : Int) = -1) ∨ (cel (vw (G.2.1 (F (F a 3) 0))) p0.toInt p1.toInt 0 ≠ -2000 ∧ ((p2.toInt = 0 ∧ ∃ b : Int → Int, (-1 : Int) = toB b 3 ∧ ∀ t j : Int, inR t j → (bI (b t) j = 1 ↔ lnC G (G.2.2.1 (F (F a 2) 1)) (vw (G.2.1 (F (F a 3) 0))) ((G.1 (F a 2) 2).toInt) t j p0.toInt p1.toInt)) ∨ (p2.toInt = 1 ∧ ∃ b : Int → Int, (-1 : Int) = toB b 3 - 1 ∧ ∀ t j : Int, inR t j → (bI (b t) j = 1 ↔ RCH (lnC G (G.2.2.1 (F (F a 2) 1)) (vw (G.2.1 (F (F a 3) 0))) ((G.1 (F a 2) 2).toInt)) p0.toInt p1.toInt t j)))) := by
  exact Or.inl ⟨Or.inr (by omega), rfl⟩
theorem v_X10_leans_54_3 {K : Nat → Nat} {F : Nat → Nat → Nat} (a : Nat) (G : XG)
    (bko : BKr K G (G.2.2.1 (F (F a 2) 1))) :
    BKr K G (G.2.2.1 (F (F a 2) 1)) := by exact bko
theorem v_X10_leans_57_4 {K : Nat → Nat} {F : Nat → Nat → Nat} (a : Nat) (G : XG) (x54 : Int32) (p0 : Int32) (p1 : Int32) (x6 : Int32) (p2 : Int32)
    (ha : K a = 12)
    (oq54 : ∃ b : Int → Int, x54.toInt = toB b 3 ∧ ∀ t j : Int, inR t j → (bI (b t) j = 1 ↔ lnC G (G.2.2.1 (F (F a 2) 1)) (vw (G.2.1 (F (F a 3) 0))) ((G.1 (F a 2) 2).toInt) t j p0.toInt p1.toInt))
    (sb : 0 ≤ ((G.1 (F a 2) 2).toInt) ∧ ((G.1 (F a 2) 2).toInt) ≤ 12)
    (z5 : ¬ (0 ≤ p0.toInt ∧ p0.toInt < 3 ∧ 0 ≤ p1.toInt ∧ p1.toInt < 30) → (cel (vw (G.2.1 (F (F a 3) 0))) (p0.toInt) (p1.toInt) 0) = -2000)
    (t6 : (x6.toInt = 1 ∧ (cel (vw (G.2.1 (F (F a 3) 0))) (p0.toInt) (p1.toInt) 0) ≠ -2000) ∨ (x6.toInt = 0 ∧ (cel (vw (G.2.1 (F (F a 3) 0))) (p0.toInt) (p1.toInt) 0) = -2000))
    (c9 : x6.toInt ≠ 0)
    (c15 : p2.toInt = 0) :
    ((cel (vw (G.2.1 (F (F a 3) 0))) p0.toInt p1.toInt 0 = -2000 ∨ (p2.toInt ≠ 0 ∧ p2.toInt ≠ 1)) ∧ x54.toInt = -1) ∨ (cel (vw (G.2.1 (F (F a 3) 0))) p0.toInt p1.toInt 0 ≠ -2000 ∧ ((p2.toInt = 0 ∧ ∃ b : Int → Int, x54.toInt = toB b 3 ∧ ∀ t j : Int, inR t j → (bI (b t) j = 1 ↔ lnC G (G.2.2.1 (F (F a 2) 1)) (vw (G.2.1 (F (F a 3) 0))) ((G.1 (F a 2) 2).toInt) t j p0.toInt p1.toInt)) ∨ (p2.toInt = 1 ∧ ∃ b : Int → Int, x54.toInt = toB b 3 - 1 ∧ ∀ t j : Int, inR t j → (bI (b t) j = 1 ↔ RCH (lnC G (G.2.2.1 (F (F a 2) 1)) (vw (G.2.1 (F (F a 3) 0))) ((G.1 (F a 2) 2).toInt)) p0.toInt p1.toInt t j)))) := by
  exact Or.inr ⟨by omega, Or.inl ⟨by omega, oq54⟩⟩
theorem v_X10_leans_72_5 {K : Nat → Nat} {F : Nat → Nat → Nat} (a : Nat) (G : XG)
    (bko : BKr K G (G.2.2.1 (F (F a 2) 1))) :
    BKr K G (G.2.2.1 (F (F a 2) 1)) := by exact bko
theorem v_X10_leans_75_6 {K : Nat → Nat} {F : Nat → Nat → Nat} (a : Nat) (G : XG) (x72 : Int32) (p0 : Int32) (p1 : Int32) (x6 : Int32) (p2 : Int32)
    (ha : K a = 12)
    (oq72 : ∃ b : Int → Int, x72.toInt = toB b 3 - 1 ∧ ∀ t j : Int, inR t j → (bI (b t) j = 1 ↔ RCH (lnC G (G.2.2.1 (F (F a 2) 1)) (vw (G.2.1 (F (F a 3) 0))) ((G.1 (F a 2) 2).toInt)) p0.toInt p1.toInt t j))
    (sb : 0 ≤ ((G.1 (F a 2) 2).toInt) ∧ ((G.1 (F a 2) 2).toInt) ≤ 12)
    (z5 : ¬ (0 ≤ p0.toInt ∧ p0.toInt < 3 ∧ 0 ≤ p1.toInt ∧ p1.toInt < 30) → (cel (vw (G.2.1 (F (F a 3) 0))) (p0.toInt) (p1.toInt) 0) = -2000)
    (t6 : (x6.toInt = 1 ∧ (cel (vw (G.2.1 (F (F a 3) 0))) (p0.toInt) (p1.toInt) 0) ≠ -2000) ∨ (x6.toInt = 0 ∧ (cel (vw (G.2.1 (F (F a 3) 0))) (p0.toInt) (p1.toInt) 0) = -2000))
    (c9 : x6.toInt ≠ 0)
    (c15 : p2.toInt = 1) :
    ((cel (vw (G.2.1 (F (F a 3) 0))) p0.toInt p1.toInt 0 = -2000 ∨ (p2.toInt ≠ 0 ∧ p2.toInt ≠ 1)) ∧ x72.toInt = -1) ∨ (cel (vw (G.2.1 (F (F a 3) 0))) p0.toInt p1.toInt 0 ≠ -2000 ∧ ((p2.toInt = 0 ∧ ∃ b : Int → Int, x72.toInt = toB b 3 ∧ ∀ t j : Int, inR t j → (bI (b t) j = 1 ↔ lnC G (G.2.2.1 (F (F a 2) 1)) (vw (G.2.1 (F (F a 3) 0))) ((G.1 (F a 2) 2).toInt) t j p0.toInt p1.toInt)) ∨ (p2.toInt = 1 ∧ ∃ b : Int → Int, x72.toInt = toB b 3 - 1 ∧ ∀ t j : Int, inR t j → (bI (b t) j = 1 ↔ RCH (lnC G (G.2.2.1 (F (F a 2) 1)) (vw (G.2.1 (F (F a 3) 0))) ((G.1 (F a 2) 2).toInt)) p0.toInt p1.toInt t j)))) := by
  exact Or.inr ⟨by omega, Or.inr ⟨by omega, oq72⟩⟩
theorem v_X10_leans_13_7 {K : Nat → Nat} {F : Nat → Nat → Nat} (a : Nat) (G : XG) (p0 : Int32) (p1 : Int32) (x6 : Int32) (p2 : Int32)
    (ha : K a = 12)
    (sb : 0 ≤ ((G.1 (F a 2) 2).toInt) ∧ ((G.1 (F a 2) 2).toInt) ≤ 12)
    (z5 : ¬ (0 ≤ p0.toInt ∧ p0.toInt < 3 ∧ 0 ≤ p1.toInt ∧ p1.toInt < 30) → (cel (vw (G.2.1 (F (F a 3) 0))) (p0.toInt) (p1.toInt) 0) = -2000)
    (t6 : (x6.toInt = 1 ∧ (cel (vw (G.2.1 (F (F a 3) 0))) (p0.toInt) (p1.toInt) 0) ≠ -2000) ∨ (x6.toInt = 0 ∧ (cel (vw (G.2.1 (F (F a 3) 0))) (p0.toInt) (p1.toInt) 0) = -2000))
    (c9 : ¬ (x6.toInt ≠ 0)) :
    ((cel (vw (G.2.1 (F (F a 3) 0))) p0.toInt p1.toInt 0 = -2000 ∨ (p2.toInt ≠ 0 ∧ p2.toInt ≠ 1)) ∧ (-1 : Int) = -1) ∨ (cel (vw (G.2.1 (F (F a 3) 0))) p0.toInt p1.toInt 0 ≠ -2000 ∧ ((p2.toInt = 0 ∧ ∃ b : Int → Int, (-1 : Int) = toB b 3 ∧ ∀ t j : Int, inR t j → (bI (b t) j = 1 ↔ lnC G (G.2.2.1 (F (F a 2) 1)) (vw (G.2.1 (F (F a 3) 0))) ((G.1 (F a 2) 2).toInt) t j p0.toInt p1.toInt)) ∨ (p2.toInt = 1 ∧ ∃ b : Int → Int, (-1 : Int) = toB b 3 - 1 ∧ ∀ t j : Int, inR t j → (bI (b t) j = 1 ↔ RCH (lnC G (G.2.2.1 (F (F a 2) 1)) (vw (G.2.1 (F (F a 3) 0))) ((G.1 (F a 2) 2).toInt)) p0.toInt p1.toInt t j)))) := by
  exact Or.inl ⟨Or.inl (by omega), rfl⟩
