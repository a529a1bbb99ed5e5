theorem z_X11_read_1 (a0 : Int) (h0 : 0 ≤ a0 ∧ a0 ≤ 80) (r0 : -2147483648 ≤ a0 ∧ a0 < 2147483648) : 0 ≤ a0 ∧ a0 ≤ 80 := by omega
theorem z_X11_read_2 (a0 : Int) (h0 : 0 ≤ a0 ∧ a0 ≤ 80) (r0 : -2147483648 ≤ a0 ∧ a0 < 2147483648) : 0 ≤ a0 ∧ a0 ≤ 80 := by omega
theorem z_X11_read_3 (a0 : Int) (h0 : 0 ≤ a0) (h1 : a0 ≤ 80) (r0 : -2147483648 ≤ a0 ∧ a0 < 2147483648) : 0 ≤ a0 ∧ a0 ≤ 80 := by omega
theorem z_X11_read_4 (a0 : Int) (h0 : a0 = 0 ∨ a0 = 1) (r0 : -2147483648 ≤ a0 ∧ a0 < 2147483648) : a0 = 0 ∨ a0 = 1 := by omega
theorem z_X11_read_5 (a0 : Int) (h0 : 0 ≤ a0 ∧ a0 ≤ 80) (r0 : -2147483648 ≤ a0 ∧ a0 < 2147483648) : 0 ≤ a0 ∧ a0 ≤ 80 := by omega
theorem z_X11_read_6 (a0 : Int) (h0 : 0 ≤ a0) (h1 : a0 ≤ 80) (r0 : -2147483648 ≤ a0 ∧ a0 < 2147483648) : 0 ≤ a0 ∧ a0 ≤ 80 := by omega
theorem z_X11_read_7 (a0 : Int) (h0 : a0 = 0 ∨ a0 = 1) (r0 : -2147483648 ≤ a0 ∧ a0 < 2147483648) : a0 = 0 ∨ a0 = 1 := by omega
theorem z_X11_read_8 (a0 : Int) (h0 : 0 ≤ a0 ∧ a0 ≤ 80) (r0 : -2147483648 ≤ a0 ∧ a0 < 2147483648) : 0 ≤ a0 ∧ a0 ≤ 80 := by omega
theorem z_X11_read_9 (a0 : Int) (h0 : 0 ≤ a0 ∧ a0 ≤ 80) (r0 : -2147483648 ≤ a0 ∧ a0 < 2147483648) : 0 ≤ a0 ∧ a0 ≤ 80 := by omega
theorem z_X11_read_10 (a0 : Int) (h0 : 0 ≤ a0 ∧ a0 ≤ 80) (r0 : -2147483648 ≤ a0 ∧ a0 < 2147483648) : 0 ≤ a0 ∧ a0 ≤ 80 := by omega
theorem z_X11_read_11 (a0 : Int) (h0 : 0 ≤ a0 ∧ a0 ≤ 80) (h1 : 0 ≤ a0 ∧ a0 ≤ 80) (r0 : -2147483648 ≤ a0 ∧ a0 < 2147483648) : 0 ≤ a0 ∧ a0 ≤ 80 := by omega
theorem z_X11_read_12 (a0 : Int) (h0 : 0 ≤ a0 ∧ a0 ≤ 80) (r0 : -2147483648 ≤ a0 ∧ a0 < 2147483648) : 0 ≤ a0 ∧ a0 ≤ 80 := by omega
theorem z_X11_read_13 (a0 : Int) (h0 : 0 ≤ a0 ∧ a0 ≤ 80) (r0 : -2147483648 ≤ a0 ∧ a0 < 2147483648) : 0 ≤ a0 ∧ a0 ≤ 80 := by omega
theorem z_X11_read_14 (a0 : Int) (a1 : Int) (a2 : Int) (a3 : Int) (a4 : Int) (a5 : Int) (a6 : Int) (a7 : Int) (a8 : Int) (a9 : Int) (a10 : Int) (a11 : Int) (a12 : Int) (a13 : Int) (a14 : Int) (a15 : Int) (a16 : Int) (a17 : Int) (a18 : Int) (a19 : Int) (a20 : Int) (a21 : Int) (a22 : Int) (a23 : Int) (a24 : Int) (a25 : Int) (a26 : Int) (a27 : Int) (a28 : Int) (a29 : Int) (a30 : Int) (a31 : Int) (a32 : Int) (a33 : Int) (h0 : 0 ≤ a3) (h1 : a3 ≤ 5) (h2 : a29 = a3) (h3 : a0 = 0 ∨ ((0 : Int) ≤ a0 ∧ a0 ≤ (2 : Int))) (h4 : a12 = a29) (h5 : a13 = a0) (h6 : a1 = 0 ∨ ((0 : Int) ≤ a1 ∧ a1 ≤ (2 : Int))) (h7 : a14 = a12) (h8 : a15 = a13) (h9 : a16 = a1) (h10 : -1 ≤ a2) (h11 : a2 ≤ 2) (h12 : a3 = 1 ∨ a3 = 3 ∨ a3 = 4 → 0 ≤ a2) (h13 : a17 = a14) (h14 : a18 = a15) (h15 : a19 = a16) (h16 : a20 = a2) (h17 : a21 = a17) (h18 : a22 = a18) (h19 : a23 = a19) (h20 : a24 = a20) (h21 : a25 = a21) (h22 : a26 = a22) (h23 : a27 = a23) (h24 : a28 = a24) (h25 : a30 = a25) (h26 : a31 = a26) (h27 : a32 = a27) (h28 : a33 = a28) (h29 : a4 = a30) (h30 : a5 = a31) (h31 : a6 = a32) (h32 : a7 = a33) (h33 : a8 = a4) (h34 : a9 = a5) (h35 : a10 = a6) (h36 : a11 = a7) (r0 : -2147483648 ≤ a0 ∧ a0 < 2147483648) (r1 : -2147483648 ≤ a1 ∧ a1 < 2147483648) (r2 : -2147483648 ≤ a2 ∧ a2 < 2147483648) (r3 : -2147483648 ≤ a3 ∧ a3 < 2147483648) : 0 ≤ a8 ∧ a8 ≤ 5 ∧ 0 ≤ a9 ∧ a9 ≤ 2 ∧ 0 ≤ a10 ∧ a10 ≤ 2 ∧ -1 ≤ a11 ∧ a11 ≤ 2 ∧ (a8 = 1 ∨ a8 = 3 ∨ a8 = 4 → 0 ≤ a11) := by first | (clear h3 h6 h12; omega) | omega
theorem z_X11_read_15 (a0 : Int) (h0 : a0 = 0 ∨ a0 = 1) (r0 : -2147483648 ≤ a0 ∧ a0 < 2147483648) : a0 = 0 ∨ a0 = 1 := by omega
theorem z_X11_read_16 (a0 : Int) (h0 : a0 = 0 ∨ a0 = 1) (r0 : -2147483648 ≤ a0 ∧ a0 < 2147483648) : a0 = 0 ∨ a0 = 1 := by omega
theorem z_X11_read_17 (a0 : Int) (a1 : Int) (a2 : Int) (a3 : Int) (a4 : Int) (a5 : Int) (a6 : Int) (a7 : Int) (a8 : Int) (a9 : Int) (a10 : Int) (a11 : Int) (a12 : Int) (a13 : Int) (a14 : Int) (a15 : Int) (a16 : Int) (a17 : Int) (a18 : Int) (a19 : Int) (a20 : Int) (a21 : Int) (a22 : Int) (a23 : Int) (a24 : Int) (a25 : Int) (a26 : Int) (a27 : Int) (a28 : Int) (a29 : Int) (a30 : Int) (a31 : Int) (a32 : Int) (a33 : Int) (h0 : 0 ≤ a3) (h1 : a3 ≤ 5) (h2 : a29 = a3) (h3 : a0 = 0 ∨ ((0 : Int) ≤ a0 ∧ a0 ≤ (2 : Int))) (h4 : a12 = a29) (h5 : a13 = a0) (h6 : a1 = 0 ∨ ((0 : Int) ≤ a1 ∧ a1 ≤ (2 : Int))) (h7 : a14 = a12) (h8 : a15 = a13) (h9 : a16 = a1) (h10 : -1 ≤ a2) (h11 : a2 ≤ 2) (h12 : a3 = 1 ∨ a3 = 3 ∨ a3 = 4 → 0 ≤ a2) (h13 : a17 = a14) (h14 : a18 = a15) (h15 : a19 = a16) (h16 : a20 = a2) (h17 : a21 = a17) (h18 : a22 = a18) (h19 : a23 = a19) (h20 : a24 = a20) (h21 : a25 = a21) (h22 : a26 = a22) (h23 : a27 = a23) (h24 : a28 = a24) (h25 : a30 = a25) (h26 : a31 = a26) (h27 : a32 = a27) (h28 : a33 = a28) (h29 : a4 = a30) (h30 : a5 = a31) (h31 : a6 = a32) (h32 : a7 = a33) (h33 : a8 = a4) (h34 : a9 = a5) (h35 : a10 = a6) (h36 : a11 = a7) (r0 : -2147483648 ≤ a0 ∧ a0 < 2147483648) (r1 : -2147483648 ≤ a1 ∧ a1 < 2147483648) (r2 : -2147483648 ≤ a2 ∧ a2 < 2147483648) (r3 : -2147483648 ≤ a3 ∧ a3 < 2147483648) : 0 ≤ a8 ∧ a8 ≤ 5 ∧ 0 ≤ a9 ∧ a9 ≤ 2 ∧ 0 ≤ a10 ∧ a10 ≤ 2 ∧ -1 ≤ a11 ∧ a11 ≤ 2 ∧ (a8 = 1 ∨ a8 = 3 ∨ a8 = 4 → 0 ≤ a11) := by first | (clear h3 h6 h12; omega) | omega
theorem z_X11_read_18 (a0 : Int) (h0 : a0 = 0) (r0 : -2147483648 ≤ a0 ∧ a0 < 2147483648) : a0 = 0 ∨ a0 = 1 := by omega
theorem z_X11_read_19 (a0 : Int) (h0 : a0 = 0) (r0 : -2147483648 ≤ a0 ∧ a0 < 2147483648) : a0 = 0 ∨ a0 = 1 := by omega
theorem z_X11_read_20 (a0 : Int) (h0 : 0 ≤ a0 ∧ a0 ≤ 80) (r0 : -2147483648 ≤ a0 ∧ a0 < 2147483648) : 0 ≤ a0 ∧ a0 ≤ 80 := by omega
theorem z_X11_read_21 (a0 : Int) (h0 : a0 = 0 ∨ a0 = 1) (h1 : a0 = 0 ∨ a0 = 1) (h2 : a0 = 0 ∨ a0 = 1) (r0 : -2147483648 ≤ a0 ∧ a0 < 2147483648) : a0 = 0 ∨ a0 = 1 := by omega
theorem z_X11_read_22 (a0 : Int) (h0 : 0 ≤ a0 ∧ a0 ≤ 80) (r0 : -2147483648 ≤ a0 ∧ a0 < 2147483648) : 0 ≤ a0 ∧ a0 ≤ 80 := by omega
theorem z_X11_read_23 (a0 : Int) (h0 : 0 ≤ a0 ∧ a0 ≤ 80) (r0 : -2147483648 ≤ a0 ∧ a0 < 2147483648) : 0 ≤ a0 ∧ a0 ≤ 80 := by omega
theorem z_X11_read_24 (a0 : Int) (h0 : a0 = 0 ∨ a0 = 1) (h1 : a0 = 0 ∨ a0 = 1) (h2 : a0 = 0 ∨ a0 = 1) (r0 : -2147483648 ≤ a0 ∧ a0 < 2147483648) : a0 = 0 ∨ a0 = 1 := by omega
theorem z_X11_read_25 (a0 : Int) (h0 : 0 ≤ a0) (h1 : a0 ≤ 80) (r0 : -2147483648 ≤ a0 ∧ a0 < 2147483648) : 0 ≤ a0 ∧ a0 ≤ 80 := by omega
theorem z_X11_read_26 (a0 : Int) (h0 : a0 = 0 ∨ a0 = 1) (r0 : -2147483648 ≤ a0 ∧ a0 < 2147483648) : a0 = 0 ∨ a0 = 1 := by omega
theorem z_X11_read_27 (a0 : Int) (h0 : 0 ≤ a0 ∧ a0 ≤ 80) (r0 : -2147483648 ≤ a0 ∧ a0 < 2147483648) : 0 ≤ a0 ∧ a0 ≤ 80 := by omega
theorem z_X11_read_28 (a0 : Int) (h0 : a0 = 0 ∨ a0 = 1) (h1 : a0 = 0 ∨ a0 = 1) (r0 : -2147483648 ≤ a0 ∧ a0 < 2147483648) : a0 = 0 ∨ a0 = 1 := by omega
theorem z_X11_read_29 (a0 : Int) (h0 : 0 ≤ a0 ∧ a0 ≤ 80) (r0 : -2147483648 ≤ a0 ∧ a0 < 2147483648) : 0 ≤ a0 ∧ a0 ≤ 80 := by omega
theorem z_X11_read_30 (a0 : Int) (h0 : a0 = 0 ∨ a0 = 1) (h1 : a0 = 0 ∨ a0 = 1) (r0 : -2147483648 ≤ a0 ∧ a0 < 2147483648) : a0 = 0 ∨ a0 = 1 := by omega
theorem z_X11_read_31 (a0 : Int) (h0 : 0 ≤ a0 ∧ a0 ≤ 80) (r0 : -2147483648 ≤ a0 ∧ a0 < 2147483648) : 0 ≤ a0 ∧ a0 ≤ 80 := by omega
theorem z_X11_read_32 (a0 : Int) (h0 : 0 ≤ a0 ∧ a0 ≤ 80) (r0 : -2147483648 ≤ a0 ∧ a0 < 2147483648) : 0 ≤ a0 ∧ a0 ≤ 80 := by omega
theorem z_X11_read_33 (a0 : Int) (h0 : 0 ≤ a0 ∧ a0 ≤ 80) (r0 : -2147483648 ≤ a0 ∧ a0 < 2147483648) : 0 ≤ a0 ∧ a0 ≤ 80 := by omega
theorem z_X11_read_34 (a0 : Int) (h0 : 0 ≤ a0 ∧ a0 ≤ 80) (r0 : -2147483648 ≤ a0 ∧ a0 < 2147483648) : 0 ≤ a0 ∧ a0 ≤ 80 := by omega
theorem z_X11_read_35 (a0 : Int) (h0 : 0 ≤ a0 ∧ a0 ≤ 80) (r0 : -2147483648 ≤ a0 ∧ a0 < 2147483648) : 0 ≤ a0 ∧ a0 ≤ 80 := by omega
theorem z_X11_read_36 (a0 : Int) (h0 : a0 = 0 ∨ a0 = 1) (r0 : -2147483648 ≤ a0 ∧ a0 < 2147483648) : a0 = 0 ∨ a0 = 1 := by omega
theorem z_X11_read_37 (a0 : Int) (h0 : 0 ≤ a0 ∧ a0 ≤ 80) (r0 : -2147483648 ≤ a0 ∧ a0 < 2147483648) : 0 ≤ a0 ∧ a0 ≤ 80 := by omega
theorem z_X11_read_38 (a0 : Int) (h0 : a0 = 0 ∨ a0 = 1) (r0 : -2147483648 ≤ a0 ∧ a0 < 2147483648) : a0 = 0 ∨ a0 = 1 := by omega
theorem z_X11_read_39 (a0 : Int) (h0 : 0 ≤ a0 ∧ a0 ≤ 80) (r0 : -2147483648 ≤ a0 ∧ a0 < 2147483648) : 0 ≤ a0 ∧ a0 ≤ 80 := by omega
theorem z_X11_read_40 (a0 : Int) (h0 : a0 = 0 ∨ a0 = 1) (r0 : -2147483648 ≤ a0 ∧ a0 < 2147483648) : a0 = 0 ∨ a0 = 1 := by omega
theorem z_X11_read_41 (a0 : Int) (h0 : 0 ≤ a0 ∧ a0 ≤ 80) (r0 : -2147483648 ≤ a0 ∧ a0 < 2147483648) : 0 ≤ a0 ∧ a0 ≤ 80 := by omega
theorem z_X11_read_42 (a0 : Int) (h0 : a0 = 0 ∨ a0 = 1) (r0 : -2147483648 ≤ a0 ∧ a0 < 2147483648) : a0 = 0 ∨ a0 = 1 := by omega
theorem z_X11_read_43 (a0 : Int) (h0 : 0 ≤ a0 ∧ a0 ≤ 80) (r0 : -2147483648 ≤ a0 ∧ a0 < 2147483648) : 0 ≤ a0 ∧ a0 ≤ 80 := by omega
theorem z_X11_read_44 (a0 : Int) (h0 : a0 = 0 ∨ a0 = 1) (r0 : -2147483648 ≤ a0 ∧ a0 < 2147483648) : a0 = 0 ∨ a0 = 1 := by omega
theorem z_X11_read_45 (a0 : Int) (h0 : 0 ≤ a0 ∧ a0 ≤ 80) (r0 : -2147483648 ≤ a0 ∧ a0 < 2147483648) : 0 ≤ a0 ∧ a0 ≤ 80 := by omega
theorem z_X11_read_46 (a0 : Int) (h0 : 0 ≤ a0 ∧ a0 ≤ 80) (r0 : -2147483648 ≤ a0 ∧ a0 < 2147483648) : 0 ≤ a0 ∧ a0 ≤ 80 := by omega
theorem z_X11_read_47 (a0 : Int) (h0 : a0 = 0 ∨ a0 = 1) (r0 : -2147483648 ≤ a0 ∧ a0 < 2147483648) : a0 = 0 ∨ a0 = 1 := by omega
theorem z_X11_read_48 (a0 : Int) (h0 : 0 ≤ a0) (h1 : a0 ≤ 80) (r0 : -2147483648 ≤ a0 ∧ a0 < 2147483648) : 0 ≤ a0 ∧ a0 ≤ 80 := by omega
theorem z_X11_read_49 (a0 : Int) (h0 : a0 = 0 ∨ a0 = 1) (r0 : -2147483648 ≤ a0 ∧ a0 < 2147483648) : a0 = 0 ∨ a0 = 1 := by omega
theorem z_X11_read_50 (a0 : Int) (h0 : 0 ≤ a0 ∧ a0 ≤ 80) (h1 : 0 ≤ a0 ∧ a0 ≤ 80) (r0 : -2147483648 ≤ a0 ∧ a0 < 2147483648) : 0 ≤ a0 ∧ a0 ≤ 80 := by omega
theorem z_X11_read_51 (a0 : Int) (h0 : a0 = 0 ∨ a0 = 1) (h1 : a0 = 0 ∨ a0 = 1) (r0 : -2147483648 ≤ a0 ∧ a0 < 2147483648) : a0 = 0 ∨ a0 = 1 := by omega
theorem z_X11_read_52 (a0 : Int) (h0 : 0 ≤ a0 ∧ a0 ≤ 80) (r0 : -2147483648 ≤ a0 ∧ a0 < 2147483648) : 0 ≤ a0 ∧ a0 ≤ 80 := by omega
theorem z_X11_read_53 (a0 : Int) (h0 : 0 ≤ a0 ∧ a0 ≤ 80) (h1 : 0 ≤ a0 ∧ a0 ≤ 80) (r0 : -2147483648 ≤ a0 ∧ a0 < 2147483648) : 0 ≤ a0 ∧ a0 ≤ 80 := by omega
theorem z_X11_read_54 (a0 : Int) (h0 : a0 = 0 ∨ a0 = 1) (h1 : a0 = 0 ∨ a0 = 1) (r0 : -2147483648 ≤ a0 ∧ a0 < 2147483648) : a0 = 0 ∨ a0 = 1 := by omega
theorem z_X11_read_55 (a0 : Int) (h0 : 0 ≤ a0) (h1 : a0 ≤ 80) (r0 : -2147483648 ≤ a0 ∧ a0 < 2147483648) : 0 ≤ a0 ∧ a0 ≤ 80 := by omega
theorem z_X11_read_56 (a0 : Int) (h0 : a0 = 0 ∨ a0 = 1) (r0 : -2147483648 ≤ a0 ∧ a0 < 2147483648) : a0 = 0 ∨ a0 = 1 := by omega
theorem z_X11_read_57 (a0 : Int) (h0 : 0 ≤ a0 ∧ a0 ≤ 80) (h1 : 0 ≤ a0 ∧ a0 ≤ 80) (r0 : -2147483648 ≤ a0 ∧ a0 < 2147483648) : 0 ≤ a0 ∧ a0 ≤ 80 := by omega
theorem z_X11_read_58 (a0 : Int) (h0 : a0 = 0 ∨ a0 = 1) (h1 : a0 = 0 ∨ a0 = 1) (r0 : -2147483648 ≤ a0 ∧ a0 < 2147483648) : a0 = 0 ∨ a0 = 1 := by omega
theorem z_X11_read_59 (a0 : Int) (h0 : 0 ≤ a0 ∧ a0 ≤ 80) (r0 : -2147483648 ≤ a0 ∧ a0 < 2147483648) : 0 ≤ a0 ∧ a0 ≤ 80 := by omega
theorem z_X11_read_60 (a0 : Int) (h0 : a0 = 0 ∨ a0 = 1) (r0 : -2147483648 ≤ a0 ∧ a0 < 2147483648) : a0 = 0 ∨ a0 = 1 := by omega
theorem z_X11_read_61 (a0 : Int) (h0 : 0 ≤ a0 ∧ a0 ≤ 80) (r0 : -2147483648 ≤ a0 ∧ a0 < 2147483648) : 0 ≤ a0 ∧ a0 ≤ 80 := by omega
theorem z_X11_read_62 (a0 : Int) (h0 : a0 = 0 ∨ a0 = 1) (r0 : -2147483648 ≤ a0 ∧ a0 < 2147483648) : a0 = 0 ∨ a0 = 1 := by omega
theorem z_X11_read_63 (a0 : Int) (h0 : 0 ≤ a0 ∧ a0 ≤ 80) (r0 : -2147483648 ≤ a0 ∧ a0 < 2147483648) : 0 ≤ a0 ∧ a0 ≤ 80 := by omega
theorem z_X11_read_64 (a0 : Int) (h0 : a0 = 0 ∨ a0 = 1) (r0 : -2147483648 ≤ a0 ∧ a0 < 2147483648) : a0 = 0 ∨ a0 = 1 := by omega
theorem z_X11_read_65 (a0 : Int) (h0 : 0 ≤ a0 ∧ a0 ≤ 80) (r0 : -2147483648 ≤ a0 ∧ a0 < 2147483648) : 0 ≤ a0 ∧ a0 ≤ 80 := by omega
theorem z_X11_read_66 (a0 : Int) (h0 : a0 = 0 ∨ a0 = 1) (r0 : -2147483648 ≤ a0 ∧ a0 < 2147483648) : a0 = 0 ∨ a0 = 1 := by omega
theorem z_X11_read_67 (a0 : Int) (h0 : 0 ≤ a0 ∧ a0 ≤ 80) (r0 : -2147483648 ≤ a0 ∧ a0 < 2147483648) : 0 ≤ a0 ∧ a0 ≤ 80 := by omega
theorem z_X11_read_68 (a0 : Int) (h0 : 0 ≤ a0) (h1 : a0 ≤ 80) (h2 : 0 ≤ a0 ∧ a0 ≤ 80) (r0 : -2147483648 ≤ a0 ∧ a0 < 2147483648) : 0 ≤ a0 ∧ a0 ≤ 80 := by omega
theorem z_X11_read_69 (a0 : Int) (h0 : a0 = 0 ∨ a0 = 1) (h1 : a0 = 0 ∨ a0 = 1) (r0 : -2147483648 ≤ a0 ∧ a0 < 2147483648) : a0 = 0 ∨ a0 = 1 := by omega
theorem z_X11_read_70 (a0 : Int) (a1 : Int) (a2 : Int) (a3 : Int) (a4 : Int) (h0 : 0 ≤ a1) (h1 : a1 ≤ 5) (h2 : a4 = a1) (h3 : a2 = a4) (h4 : a3 = a2) (h5 : a0 = 0 ∨ ((0 : Int) ≤ a0 ∧ a0 ≤ (2 : Int))) (r0 : -2147483648 ≤ a0 ∧ a0 < 2147483648) (r1 : -2147483648 ≤ a1 ∧ a1 < 2147483648) : -1 ≤ a0 ∧ a0 ≤ 2 ∧ (a1 = 1 ∨ a1 = 3 ∨ a1 = 4 → 0 ≤ a0) := by omega
theorem z_X11_read_71 (a0 : Int) (h0 : 0 ≤ a0) (h1 : a0 ≤ 80) (r0 : -2147483648 ≤ a0 ∧ a0 < 2147483648) : 0 ≤ a0 ∧ a0 ≤ 80 := by omega
theorem z_X11_read_72 (a0 : Int) (h0 : a0 = 0 ∨ a0 = 1) (r0 : -2147483648 ≤ a0 ∧ a0 < 2147483648) : a0 = 0 ∨ a0 = 1 := by omega
theorem z_X11_read_73 (a0 : Int) (h0 : 0 ≤ a0) (h1 : a0 ≤ 80) (r0 : -2147483648 ≤ a0 ∧ a0 < 2147483648) : 0 ≤ a0 ∧ a0 ≤ 80 := by omega
theorem z_X11_read_74 (a0 : Int) (h0 : a0 = 0 ∨ a0 = 1) (r0 : -2147483648 ≤ a0 ∧ a0 < 2147483648) : a0 = 0 ∨ a0 = 1 := by omega
theorem z_X11_read_75 (a0 : Int) (h0 : 0 ≤ a0) (h1 : a0 ≤ 80) (r0 : -2147483648 ≤ a0 ∧ a0 < 2147483648) : 0 ≤ a0 ∧ a0 ≤ 80 := by omega
theorem z_X11_read_76 (a0 : Int) (h0 : a0 = 0 ∨ a0 = 1) (r0 : -2147483648 ≤ a0 ∧ a0 < 2147483648) : a0 = 0 ∨ a0 = 1 := by omega
theorem z_X11_read_77 (a0 : Int) (a1 : Int) (a2 : Int) (a3 : Int) (h0 : 0 ≤ a0) (h1 : a0 ≤ 5) (h2 : a3 = a0) (h3 : a1 = a3) (h4 : a2 = a1) (h5 : ¬ (a0 = (1 : Int))) (h6 : ¬ (a0 = (3 : Int))) (h7 : a0 ≠ (4 : Int)) (r0 : -2147483648 ≤ a0 ∧ a0 < 2147483648) : -1 ≤ (-1 : Int) ∧ (-1 : Int) ≤ 2 ∧ (a0 = 1 ∨ a0 = 3 ∨ a0 = 4 → 0 ≤ (-1 : Int)) := by omega
theorem z_X11_read_78 (a0 : Int) (h0 : 0 ≤ a0) (h1 : a0 ≤ 80) (r0 : -2147483648 ≤ a0 ∧ a0 < 2147483648) : 0 ≤ a0 ∧ a0 ≤ 80 := by omega
theorem z_X11_read_79 (a0 : Int) (h0 : a0 = 0 ∨ a0 = 1) (r0 : -2147483648 ≤ a0 ∧ a0 < 2147483648) : a0 = 0 ∨ a0 = 1 := by omega
theorem z_X11_read_80 (a0 : Int) (h0 : 0 ≤ a0) (h1 : a0 ≤ 80) (r0 : -2147483648 ≤ a0 ∧ a0 < 2147483648) : 0 ≤ a0 ∧ a0 ≤ 80 := by omega
theorem z_X11_read_81 (a0 : Int) (h0 : a0 = 0 ∨ a0 = 1) (r0 : -2147483648 ≤ a0 ∧ a0 < 2147483648) : a0 = 0 ∨ a0 = 1 := by omega
abbrev rm_X11_read : Room := { frames := 4, cells := 0, slots := 0, locals := 90 }
set_option maxHeartbeats 4000000 in
set_option maxRecDepth 100000 in
theorem c_X11_read (l : Launch) (E : XE) (K : Nat → Nat) (F : Nat → Nat → Nat) (tl z0 z1 z2 z3 z4 z5 z6 z7 z8 z9 z10 z11 z12 z13 z14 z15 z16 z17 z18 z19 z20 : Int32) (ar0 ar1 ar2 ar3 ar4 ar5 ar6 ar7 ar8 ar9 ar10 : Nat → Int32) (a : Nat) (ha : K a = 13) (e0 : 0 ≤ z8.toInt ∧ z8.toInt ≤ 80) : Met l yX11_read (xw yX11_read cX11_read 3 (some .boolean)) rm_X11_read (va_Pc [.ref a] (XP E K F (tl, [z0, z1, z2, z3, z4, z5, z6, z7, z8, z9, z10, z11, z12, z13, z14, z15, z16, z17, z18, z19, z20], [ar0, ar1, ar2, ar3, ar4, ar5, ar6, ar7, ar8, ar9, ar10]))) (XQ E (fun v (u : Int32 × Int32 × Int32 × (Nat → Int32)) => ∃ r : Int32, v = .int r ∧ (r = 0 ∨ r = 1) ∧ (0 ≤ (aI u.2.2.2 (0 : Int)) ∧ (aI u.2.2.2 (0 : Int)) ≤ 5 ∧ 0 ≤ (aI u.2.2.2 (1 : Int)) ∧ (aI u.2.2.2 (1 : Int)) ≤ 2 ∧ 0 ≤ (aI u.2.2.2 (2 : Int)) ∧ (aI u.2.2.2 (2 : Int)) ≤ 2 ∧ -1 ≤ (aI u.2.2.2 (3 : Int)) ∧ (aI u.2.2.2 (3 : Int)) ≤ 2 ∧ ((aI u.2.2.2 (0 : Int)) = 1 ∨ (aI u.2.2.2 (0 : Int)) = 3 ∨ (aI u.2.2.2 (0 : Int)) = 4 → 0 ≤ (aI u.2.2.2 (3 : Int))))) (fun u H => TW E K F (tl, [z0, z1, z2, z3, z4, z5, z6, z7, z8, u.1, u.2.1, u.2.2.1, z12, z13, z14, z15, z16, z17, z18, z19, z20], [ar0, ar1, ar2, ar3, ar4, u.2.2.2, ar6, ar7, ar8, ar9, ar10]) [] H)) 0 0 (xA E) := by
  refine x_enter (by decide) (Nat.le_of_ble_eq_true rfl) ?_
  intro p e s m args below meth c Q S hr hlk hnm hQ hP ls hl
  obtain ⟨hz, hK, hT⟩ := hP
  obtain ⟨hx, hb, -, -, -⟩ := id S
  obtain ⟨H, hT, hS, hgo⟩ : ∃ H : Heap, TW E K F (tl, [z0, z1, z2, z3, z4, z5, z6, z7, z8, z9, z10, z11, z12, z13, z14, z15, z16, z17, z18, z19, z20], [ar0, ar1, ar2, ar3, ar4, ar5, ar6, ar7, ar8, ar9, ar10]) [] H ∧ va_S (xA E) s.heap H [] ∧ H = s.heap := ⟨_, hT, va_S.rf, rfl⟩
  rw [← hgo]
  have hl : lv_has ls 3 [(0, .ref a)] := hl
  refine lv_aload_n hx hb dX11_read_0 rfl (lv_at hl 0 rfl) ?_
  refine lv_iconst (v := 0) hx hb dX11_read_1 (by decide) ?_
  refine pX11_37 (kq := []) (v := 0) S hK hT hS ha kf_X11_256 (Nat.le_of_ble_eq_true rfl) dX11_read_2 (fun _ h => by cases h) (fun H locs hT hS => ?_)
  have hT : TW E K F (tl, [z0, z1, z2, z3, z4, z5, z6, z7, z8, 0, z10, z11, z12, z13, z14, z15, z16, z17, z18, z19, z20], [ar0, ar1, ar2, ar3, ar4, ar5, ar6, ar7, ar8, ar9, ar10]) [] H := hT
  refine lv_aload_n hx hb dX11_read_5 rfl (lv_at hl 0 rfl) ?_
  refine lv_iconst (v := 1) hx hb dX11_read_6 (by decide) ?_
  refine pX11_39 (kq := []) (v := 1) S hK hT hS ha kf_X11_262 (Or.inr rfl) (Nat.le_of_ble_eq_true rfl) dX11_read_7 (fun _ h => by cases h) (fun H locs hT hS => ?_)
  have hT : TW E K F (tl, [z0, z1, z2, z3, z4, z5, z6, z7, z8, 0, z10, 1, z12, z13, z14, z15, z16, z17, z18, z19, z20], [ar0, ar1, ar2, ar3, ar4, ar5, ar6, ar7, ar8, ar9, ar10]) [] H := hT
  refine lv_aload_n hx hb dX11_read_10 rfl (lv_at hl 0 rfl) ?_
  refine x_cl0 (x_runV (b := a) (As := []) (rest := []) S (c_X11_kindHere l E K F tl z0 z1 z2 z3 z4 z5 z6 z7 z8 0 z10 1 z12 z13 z14 z15 z16 z17 z18 z19 z20 ar0 ar1 ar2 ar3 ar4 ar5 ar6 ar7 ar8 ar9 ar10 a ha (z_X11_read_1 z8.toInt e0 (xr z8)) (by decide) (by decide)) mv_X11_kindHere km_X11_286 rfl rfl ⟨Nat.le_of_ble_eq_true rfl, Nat.le_of_ble_eq_true rfl⟩ (rc_13 hK hT ha) hK (fun _ => XP.blind) (fun U hU hW => XP.at hK hz hS hT hU hW) rfl hl.1 (Nat.le_of_ble_eq_true rfl) dX11_read_11 ⟨Nat.le_of_ble_eq_true rfl, Nat.le_of_ble_eq_true rfl⟩) hS ?_
  rintro _ ⟨u1, u2, u3⟩ H locs ⟨x5, rfl, t4⟩ hT hS
  have hT : TW E K F (tl, [z0, z1, z2, z3, z4, z5, z6, z7, z8, u1, u2, u3, z12, z13, z14, z15, z16, z17, z18, z19, z20], [ar0, ar1, ar2, ar3, ar4, ar5, ar6, ar7, ar8, ar9, ar10]) [] H := hT
  have t4 : 0 ≤ u1.toInt ∧ u1.toInt ≤ 80 ∧ 0 ≤ x5.toInt ∧ x5.toInt ≤ 5 ∧ (u3.toInt = 0 ∨ u3.toInt = 1) := t4
  refine lv_istore_n (lv' := [(1, .int x5), (0, .ref a)]) hx hb dX11_read_14 rfl hl (by decide) rfl (fun ls hl => ?_)
  refine lv_aload_n hx hb dX11_read_15 rfl (lv_at hl 1 rfl) ?_
  refine gX11_40 S hK hT ha kf_X11_106 dX11_read_16 (fun hk7 => ?_)
  refine lv_iconst (v := 0) hx hb dX11_read_19 (by decide) ?_
  refine lv_iload_n hx hb dX11_read_20 rfl (lv_at hl 0 rfl) ?_
  refine tst_0 S hK hT hS hk7 (at_52 (f := ar5) rfl) (fun _ => bt_52 (Nat.le_of_ble_eq_true rfl)) (by decide) (by decide) xti_52 (by decide) dX11_read_21 (fun f8 H locs hu9 hT hS => ?_)
  have hT : TW E K F (tl, [z0, z1, z2, z3, z4, z5, z6, z7, z8, u1, u2, u3, z12, z13, z14, z15, z16, z17, z18, z19, z20], [ar0, ar1, ar2, ar3, ar4, f8, ar6, ar7, ar8, ar9, ar10]) [] H := hT
  have hu9 : ∀ z : Int, 0 ≤ z → aI f8 z = if z = (0 : Int) then x5.toInt else aI ar5 z := fun z h9 => by have h8 := hu9 z h9; rw [show Int32.toInt 0 = (0 : Int) from by decide] at h8; exact h8
  have v10 : (aI f8 (0 : Int)) = x5.toInt := by rw [hu9 (0 : Int) (by decide)]; exact if_pos (by decide)
  have v11 : (aI f8 (1 : Int)) = (aI ar5 (1 : Int)) := by rw [hu9 (1 : Int) (by decide)]; exact if_neg (by decide)
  have v12 : (aI f8 (2 : Int)) = (aI ar5 (2 : Int)) := by rw [hu9 (2 : Int) (by decide)]; exact if_neg (by decide)
  have v13 : (aI f8 (3 : Int)) = (aI ar5 (3 : Int)) := by rw [hu9 (3 : Int) (by decide)]; exact if_neg (by decide)
  refine lv_aload_n hx hb dX11_read_22 rfl (lv_at hl 1 rfl) ?_
  refine gX11_40 S hK hT ha kf_X11_106 dX11_read_23 (fun hk14 => ?_)
  refine lv_iconst (v := 1) hx hb dX11_read_26 (by decide) ?_
  refine lv_aload_n hx hb dX11_read_27 rfl (lv_at hl 1 rfl) ?_
  refine lv_iconst (v := 0) hx hb dX11_read_28 (by decide) ?_
  refine lv_iconst (v := 2) hx hb dX11_read_29 (by decide) ?_
  refine x_cl0 (x_runV (b := a) (As := [.int 0, .int 2]) (rest := [.int 1, .ref (F a 40)]) S (c_X11_number l E K F tl z0 z1 z2 z3 z4 z5 z6 z7 z8 u1 u2 u3 z12 z13 z14 z15 z16 z17 z18 z19 z20 ar0 ar1 ar2 ar3 ar4 f8 ar6 ar7 ar8 ar9 ar10 a 0 2 ha (z_X11_read_2 z8.toInt e0 (xr z8)) (z_X11_read_3 u1.toInt (t4).1 (t4).2.1 (xr u1)) (z_X11_read_4 u3.toInt (t4).2.2.2.2 (xr u3))) mv_X11_number km_X11_289 rfl rfl ⟨Nat.le_of_ble_eq_true rfl, Nat.le_of_ble_eq_true rfl⟩ (rc_13 hK hT ha) hK (fun _ => XP.blind) (fun U hU hW => XP.at hK hz hS hT hU hW) rfl hl.1 (Nat.le_of_ble_eq_true rfl) dX11_read_30 ⟨Nat.le_of_ble_eq_true rfl, Nat.le_of_ble_eq_true rfl⟩) hS ?_
  rintro _ ⟨u15, u16, u17⟩ H locs ⟨x19, rfl, t18⟩ hT hS
  have hT : TW E K F (tl, [z0, z1, z2, z3, z4, z5, z6, z7, z8, u15, u16, u17, z12, z13, z14, z15, z16, z17, z18, z19, z20], [ar0, ar1, ar2, ar3, ar4, f8, ar6, ar7, ar8, ar9, ar10]) [] H := hT
  have t18 : 0 ≤ u15.toInt ∧ u15.toInt ≤ 80 ∧ (x19.toInt = 0 ∨ ((0 : Int) ≤ x19.toInt ∧ x19.toInt ≤ (2 : Int))) ∧ (u17.toInt = 0 ∨ u17.toInt = 1) := t18
  refine tst_0 S hK hT hS hk14 (at_52 (f := f8) rfl) (fun _ => bt_52 (Nat.le_of_ble_eq_true rfl)) (by decide) (by decide) xti_52 (by decide) dX11_read_33 (fun f21 H locs hu22 hT hS => ?_)
  have hT : TW E K F (tl, [z0, z1, z2, z3, z4, z5, z6, z7, z8, u15, u16, u17, z12, z13, z14, z15, z16, z17, z18, z19, z20], [ar0, ar1, ar2, ar3, ar4, f21, ar6, ar7, ar8, ar9, ar10]) [] H := hT
  have hu22 : ∀ z : Int, 0 ≤ z → aI f21 z = if z = (1 : Int) then x19.toInt else aI f8 z := fun z h9 => by have h8 := hu22 z h9; rw [show Int32.toInt 1 = (1 : Int) from by decide] at h8; exact h8
  have v23 : (aI f21 (0 : Int)) = (aI f8 (0 : Int)) := by rw [hu22 (0 : Int) (by decide)]; exact if_neg (by decide)
  have v24 : (aI f21 (1 : Int)) = x19.toInt := by rw [hu22 (1 : Int) (by decide)]; exact if_pos (by decide)
  have v25 : (aI f21 (2 : Int)) = (aI f8 (2 : Int)) := by rw [hu22 (2 : Int) (by decide)]; exact if_neg (by decide)
  have v26 : (aI f21 (3 : Int)) = (aI f8 (3 : Int)) := by rw [hu22 (3 : Int) (by decide)]; exact if_neg (by decide)
  refine lv_aload_n hx hb dX11_read_34 rfl (lv_at hl 1 rfl) ?_
  refine gX11_40 S hK hT ha kf_X11_106 dX11_read_35 (fun hk27 => ?_)
  refine lv_iconst (v := 2) hx hb dX11_read_38 (by decide) ?_
  refine lv_aload_n hx hb dX11_read_39 rfl (lv_at hl 1 rfl) ?_
  refine lv_iconst (v := 0) hx hb dX11_read_40 (by decide) ?_
  refine lv_iconst (v := 2) hx hb dX11_read_41 (by decide) ?_
  refine x_cl0 (x_runV (b := a) (As := [.int 0, .int 2]) (rest := [.int 2, .ref (F a 40)]) S (c_X11_number l E K F tl z0 z1 z2 z3 z4 z5 z6 z7 z8 u15 u16 u17 z12 z13 z14 z15 z16 z17 z18 z19 z20 ar0 ar1 ar2 ar3 ar4 f21 ar6 ar7 ar8 ar9 ar10 a 0 2 ha (z_X11_read_5 z8.toInt e0 (xr z8)) (z_X11_read_6 u15.toInt (t18).1 (t18).2.1 (xr u15)) (z_X11_read_7 u17.toInt (t18).2.2.2 (xr u17))) mv_X11_number km_X11_289 rfl rfl ⟨Nat.le_of_ble_eq_true rfl, Nat.le_of_ble_eq_true rfl⟩ (rc_13 hK hT ha) hK (fun _ => XP.blind) (fun U hU hW => XP.at hK hz hS hT hU hW) rfl hl.1 (Nat.le_of_ble_eq_true rfl) dX11_read_42 ⟨Nat.le_of_ble_eq_true rfl, Nat.le_of_ble_eq_true rfl⟩) hS ?_
  rintro _ ⟨u28, u29, u30⟩ H locs ⟨x32, rfl, t31⟩ hT hS
  have hT : TW E K F (tl, [z0, z1, z2, z3, z4, z5, z6, z7, z8, u28, u29, u30, z12, z13, z14, z15, z16, z17, z18, z19, z20], [ar0, ar1, ar2, ar3, ar4, f21, ar6, ar7, ar8, ar9, ar10]) [] H := hT
  have t31 : 0 ≤ u28.toInt ∧ u28.toInt ≤ 80 ∧ (x32.toInt = 0 ∨ ((0 : Int) ≤ x32.toInt ∧ x32.toInt ≤ (2 : Int))) ∧ (u30.toInt = 0 ∨ u30.toInt = 1) := t31
  refine tst_0 S hK hT hS hk27 (at_52 (f := f21) rfl) (fun _ => bt_52 (Nat.le_of_ble_eq_true rfl)) (by decide) (by decide) xti_52 (by decide) dX11_read_45 (fun f34 H locs hu35 hT hS => ?_)
  have hT : TW E K F (tl, [z0, z1, z2, z3, z4, z5, z6, z7, z8, u28, u29, u30, z12, z13, z14, z15, z16, z17, z18, z19, z20], [ar0, ar1, ar2, ar3, ar4, f34, ar6, ar7, ar8, ar9, ar10]) [] H := hT
  have hu35 : ∀ z : Int, 0 ≤ z → aI f34 z = if z = (2 : Int) then x32.toInt else aI f21 z := fun z h9 => by have h8 := hu35 z h9; rw [show Int32.toInt 2 = (2 : Int) from by decide] at h8; exact h8
  have v36 : (aI f34 (0 : Int)) = (aI f21 (0 : Int)) := by rw [hu35 (0 : Int) (by decide)]; exact if_neg (by decide)
  have v37 : (aI f34 (1 : Int)) = (aI f21 (1 : Int)) := by rw [hu35 (1 : Int) (by decide)]; exact if_neg (by decide)
  have v38 : (aI f34 (2 : Int)) = x32.toInt := by rw [hu35 (2 : Int) (by decide)]; exact if_pos (by decide)
  have v39 : (aI f34 (3 : Int)) = (aI f21 (3 : Int)) := by rw [hu35 (3 : Int) (by decide)]; exact if_neg (by decide)
  refine lv_aload_n hx hb dX11_read_46 rfl (lv_at hl 1 rfl) ?_
  refine gX11_40 S hK hT ha kf_X11_106 dX11_read_47 (fun hk40 => ?_)
  refine lv_iconst (v := 3) hx hb dX11_read_50 (by decide) ?_
  refine lv_iload_n hx hb dX11_read_51 rfl (lv_at hl 0 rfl) ?_
  refine lv_iconst (v := 1) hx hb dX11_read_52 (by decide) ?_
  have J76 : ∀ (x41 : Int32) (x42 : Int32) (x43 : Int32) (x44 : Int32) (H : Heap) (locs : List Loc) (ls : Array Slot), (-1 ≤ x44.toInt ∧ x44.toInt ≤ 2 ∧ (x5.toInt = 1 ∨ x5.toInt = 3 ∨ x5.toInt = 4 → 0 ≤ x44.toInt)) → 0 ≤ x43.toInt ∧ x43.toInt ≤ 80 → x42.toInt = 0 ∨ x42.toInt = 1 → TW E K F (tl, [z0, z1, z2, z3, z4, z5, z6, z7, z8, x43, x41, x42, z12, z13, z14, z15, z16, z17, z18, z19, z20], [ar0, ar1, ar2, ar3, ar4, f34, ar6, ar7, ar8, ar9, ar10]) [] H → va_S (xA E) s.heap H locs → lv_has ls 3 [(0, .ref a), (1, .int x5)] → W p l e rm_X11_read s m args below meth c H locs 0 0 Q (F0 m 76 ls [.int x44, .int 3, .ref (F a 40)]) := by
    intro x41 x42 x43 x44 H locs ls hf45 hf46 hf47 hT hS hl
    refine tst_0 S hK hT hS hk40 (at_52 (f := f34) rfl) (fun _ => bt_52 (Nat.le_of_ble_eq_true rfl)) (by decide) (by decide) xti_52 (by decide) dX11_read_76 (fun f48 H locs hu49 hT hS => ?_)
    have hT : TW E K F (tl, [z0, z1, z2, z3, z4, z5, z6, z7, z8, x43, x41, x42, z12, z13, z14, z15, z16, z17, z18, z19, z20], [ar0, ar1, ar2, ar3, ar4, f48, ar6, ar7, ar8, ar9, ar10]) [] H := hT
    have hu49 : ∀ z : Int, 0 ≤ z → aI f48 z = if z = (3 : Int) then x44.toInt else aI f34 z := fun z h9 => by have h8 := hu49 z h9; rw [show Int32.toInt 3 = (3 : Int) from by decide] at h8; exact h8
    have v50 : (aI f48 (0 : Int)) = (aI f34 (0 : Int)) := by rw [hu49 (0 : Int) (by decide)]; exact if_neg (by decide)
    have v51 : (aI f48 (1 : Int)) = (aI f34 (1 : Int)) := by rw [hu49 (1 : Int) (by decide)]; exact if_neg (by decide)
    have v52 : (aI f48 (2 : Int)) = (aI f34 (2 : Int)) := by rw [hu49 (2 : Int) (by decide)]; exact if_neg (by decide)
    have v53 : (aI f48 (3 : Int)) = x44.toInt := by rw [hu49 (3 : Int) (by decide)]; exact if_pos (by decide)
    refine lv_iload_n hx hb dX11_read_77 rfl (lv_at hl 1 rfl) ?_
    refine lv_iconst (v := 2) hx hb dX11_read_78 (by decide) ?_
    have J97 : ∀ (x54 : Int32) (H : Heap) (locs : List Loc) (ls : Array Slot), 0 ≤ x43.toInt ∧ x43.toInt ≤ 80 → x42.toInt = 0 ∨ x42.toInt = 1 → TW E K F (tl, [z0, z1, z2, z3, z4, z5, z6, z7, z8, x43, x41, x42, z12, z13, z14, z15, z16, z17, z18, z19, z20], [ar0, ar1, ar2, ar3, ar4, f48, ar6, ar7, ar8, ar9, ar10]) [] H → va_S (xA E) s.heap H locs → lv_has ls 3 [(0, .ref a), (1, .int x5)] → W p l e rm_X11_read s m args below meth c H locs 0 0 Q (F0 m 97 ls [.int x54]) := by
      intro x54 H locs ls hf55 hf56 hT hS hl
      refine lv_istore_n (lv' := [(2, .int x54), (0, .ref a), (1, .int x5)]) hx hb dX11_read_97 rfl hl (by decide) rfl (fun ls hl => ?_)
      refine lv_aload_n hx hb dX11_read_98 rfl (lv_at hl 1 rfl) ?_
      refine gX11_40 S hK hT ha kf_X11_106 dX11_read_99 (fun hk57 => ?_)
      refine lv_iconst (v := 4) hx hb dX11_read_102 (by decide) ?_
      refine lv_iload_n hx hb dX11_read_103 rfl (lv_at hl 0 rfl) ?_
      have J121 : ∀ (x58 : Int32) (x59 : Int32) (x60 : Int32) (x61 : Int32) (H : Heap) (locs : List Loc) (ls : Array Slot), 0 ≤ x60.toInt ∧ x60.toInt ≤ 80 → x59.toInt = 0 ∨ x59.toInt = 1 → TW E K F (tl, [z0, z1, z2, z3, z4, z5, z6, z7, z8, x60, x58, x59, z12, z13, z14, z15, z16, z17, z18, z19, z20], [ar0, ar1, ar2, ar3, ar4, f48, ar6, ar7, ar8, ar9, ar10]) [] H → va_S (xA E) s.heap H locs → lv_has ls 3 [(0, .ref a), (1, .int x5), (2, .int x54)] → W p l e rm_X11_read s m args below meth c H locs 0 0 Q (F0 m 121 ls [.int x61, .int 4, .ref (F a 40)]) := by
        intro x58 x59 x60 x61 H locs ls hf62 hf63 hT hS hl
        refine tst_0 S hK hT hS hk57 (at_52 (f := f48) rfl) (fun _ => bt_52 (Nat.le_of_ble_eq_true rfl)) (by decide) (by decide) xti_52 (by decide) dX11_read_121 (fun f64 H locs hu65 hT hS => ?_)
        have hT : TW E K F (tl, [z0, z1, z2, z3, z4, z5, z6, z7, z8, x60, x58, x59, z12, z13, z14, z15, z16, z17, z18, z19, z20], [ar0, ar1, ar2, ar3, ar4, f64, ar6, ar7, ar8, ar9, ar10]) [] H := hT
        have hu65 : ∀ z : Int, 0 ≤ z → aI f64 z = if z = (4 : Int) then x61.toInt else aI f48 z := fun z h9 => by have h8 := hu65 z h9; rw [show Int32.toInt 4 = (4 : Int) from by decide] at h8; exact h8
        have v66 : (aI f64 (0 : Int)) = (aI f48 (0 : Int)) := by rw [hu65 (0 : Int) (by decide)]; exact if_neg (by decide)
        have v67 : (aI f64 (1 : Int)) = (aI f48 (1 : Int)) := by rw [hu65 (1 : Int) (by decide)]; exact if_neg (by decide)
        have v68 : (aI f64 (2 : Int)) = (aI f48 (2 : Int)) := by rw [hu65 (2 : Int) (by decide)]; exact if_neg (by decide)
        have v69 : (aI f64 (3 : Int)) = (aI f48 (3 : Int)) := by rw [hu65 (3 : Int) (by decide)]; exact if_neg (by decide)
        refine lv_aload_n hx hb dX11_read_122 rfl (lv_at hl 0 rfl) ?_
        refine gX11_40 S hK hT ha kf_X11_106 dX11_read_123 (fun hk70 => ?_)
        refine lv_iconst (v := 5) hx hb dX11_read_126 (by decide) ?_
        refine lv_iload_n hx hb dX11_read_127 rfl (lv_at hl 2 rfl) ?_
        have J148 : ∀ (x71 : Int32) (x72 : Int32) (x73 : Int32) (x74 : Int32) (H : Heap) (locs : List Loc) (ls : Array Slot), 0 ≤ x73.toInt ∧ x73.toInt ≤ 80 → x72.toInt = 0 ∨ x72.toInt = 1 → TW E K F (tl, [z0, z1, z2, z3, z4, z5, z6, z7, z8, x73, x71, x72, z12, z13, z14, z15, z16, z17, z18, z19, z20], [ar0, ar1, ar2, ar3, ar4, f64, ar6, ar7, ar8, ar9, ar10]) [] H → va_S (xA E) s.heap H locs → lv_has ls 3 [(0, .ref a), (1, .int x5)] → W p l e rm_X11_read s m args below meth c H locs 0 0 Q (F0 m 148 ls [.int x74, .int 5, .ref (F a 40)]) := by
          intro x71 x72 x73 x74 H locs ls hf75 hf76 hT hS hl
          refine tst_0 S hK hT hS hk70 (at_52 (f := f64) rfl) (fun _ => bt_52 (Nat.le_of_ble_eq_true rfl)) (by decide) (by decide) xti_52 (by decide) dX11_read_148 (fun f77 H locs hu78 hT hS => ?_)
          have hT : TW E K F (tl, [z0, z1, z2, z3, z4, z5, z6, z7, z8, x73, x71, x72, z12, z13, z14, z15, z16, z17, z18, z19, z20], [ar0, ar1, ar2, ar3, ar4, f77, ar6, ar7, ar8, ar9, ar10]) [] H := hT
          have hu78 : ∀ z : Int, 0 ≤ z → aI f77 z = if z = (5 : Int) then x74.toInt else aI f64 z := fun z h9 => by have h8 := hu78 z h9; rw [show Int32.toInt 5 = (5 : Int) from by decide] at h8; exact h8
          have v79 : (aI f77 (0 : Int)) = (aI f64 (0 : Int)) := by rw [hu78 (0 : Int) (by decide)]; exact if_neg (by decide)
          have v80 : (aI f77 (1 : Int)) = (aI f64 (1 : Int)) := by rw [hu78 (1 : Int) (by decide)]; exact if_neg (by decide)
          have v81 : (aI f77 (2 : Int)) = (aI f64 (2 : Int)) := by rw [hu78 (2 : Int) (by decide)]; exact if_neg (by decide)
          have v82 : (aI f77 (3 : Int)) = (aI f64 (3 : Int)) := by rw [hu78 (3 : Int) (by decide)]; exact if_neg (by decide)
          refine lv_aload_n hx hb dX11_read_149 rfl (lv_at hl 0 rfl) ?_
          refine gX11_40 S hK hT ha kf_X11_106 dX11_read_150 (fun hk83 => ?_)
          refine lv_bipush (v := 8) hx hb dX11_read_153 (by decide) ?_
          refine lv_iload_n hx hb dX11_read_155 rfl (lv_at hl 1 rfl) ?_
          refine lv_iconst (v := 1) hx hb dX11_read_156 (by decide) ?_
          have J195 : ∀ (x84 : Int32) (x85 : Int32) (H : Heap) (locs : List Loc) (ls : Array Slot), 0 ≤ x84.toInt ∧ x84.toInt ≤ 80 → x72.toInt = 0 ∨ x72.toInt = 1 → TW E K F (tl, [z0, z1, z2, z3, z4, z5, z6, z7, z8, x84, x71, x72, z12, z13, z14, z15, z16, z17, z18, z19, z20], [ar0, ar1, ar2, ar3, ar4, f77, ar6, ar7, ar8, ar9, ar10]) [] H → va_S (xA E) s.heap H locs → lv_has ls 3 [(0, .ref a)] → W p l e rm_X11_read s m args below meth c H locs 0 0 Q (F0 m 195 ls [.int x85, .int 8, .ref (F a 40)]) := by
            intro x84 x85 H locs ls hf86 hf87 hT hS hl
            refine tst_0 S hK hT hS hk83 (at_52 (f := f77) rfl) (fun _ => bt_52 (Nat.le_of_ble_eq_true rfl)) (by decide) (by decide) xti_52 (by decide) dX11_read_195 (fun f88 H locs hu89 hT hS => ?_)
            have hT : TW E K F (tl, [z0, z1, z2, z3, z4, z5, z6, z7, z8, x84, x71, x72, z12, z13, z14, z15, z16, z17, z18, z19, z20], [ar0, ar1, ar2, ar3, ar4, f88, ar6, ar7, ar8, ar9, ar10]) [] H := hT
            have hu89 : ∀ z : Int, 0 ≤ z → aI f88 z = if z = (8 : Int) then x85.toInt else aI f77 z := fun z h9 => by have h8 := hu89 z h9; rw [show Int32.toInt 8 = (8 : Int) from by decide] at h8; exact h8
            have v90 : (aI f88 (0 : Int)) = (aI f77 (0 : Int)) := by rw [hu89 (0 : Int) (by decide)]; exact if_neg (by decide)
            have v91 : (aI f88 (1 : Int)) = (aI f77 (1 : Int)) := by rw [hu89 (1 : Int) (by decide)]; exact if_neg (by decide)
            have v92 : (aI f88 (2 : Int)) = (aI f77 (2 : Int)) := by rw [hu89 (2 : Int) (by decide)]; exact if_neg (by decide)
            have v93 : (aI f88 (3 : Int)) = (aI f77 (3 : Int)) := by rw [hu89 (3 : Int) (by decide)]; exact if_neg (by decide)
            refine lv_aload_n hx hb dX11_read_196 rfl (lv_at hl 0 rfl) ?_
            refine gX11_40 S hK hT ha kf_X11_106 dX11_read_197 (fun hk94 => ?_)
            refine lv_bipush (v := 6) hx hb dX11_read_200 (by decide) ?_
            refine lv_aload_n hx hb dX11_read_202 rfl (lv_at hl 0 rfl) ?_
            refine lv_aload_n hx hb dX11_read_203 rfl (lv_at hl 0 rfl) ?_
            refine gX11_33 S hK hT ha kf_X11_97 dX11_read_204 (fun hk95 => ?_)
            refine x_cl0 (x_runV (b := a) (As := [.ref (F a 33)]) (rest := [.int 6, .ref (F a 40)]) S (c_X11_isWord l E K F tl z0 z1 z2 z3 z4 z5 z6 z7 z8 x84 x71 x72 z12 z13 z14 z15 z16 z17 z18 z19 z20 ar0 ar1 ar2 ar3 ar4 f88 ar6 ar7 ar8 ar9 ar10 a (F a 33) 4 ha (XWd.k47 hk95) (z_X11_read_8 z8.toInt e0 (xr z8)) (z_X11_read_9 x84.toInt hf86 (xr x84))) mv_X11_isWord km_X11_282 rfl rfl ⟨Nat.le_of_ble_eq_true rfl, Nat.le_of_ble_eq_true rfl⟩ (rc_13 hK hT ha) hK (fun _ => XP.blind) (fun U hU hW => XP.at hK hz hS hT hU hW) rfl hl.1 (Nat.le_of_ble_eq_true rfl) dX11_read_207 ⟨Nat.le_of_ble_eq_true rfl, Nat.le_of_ble_eq_true rfl⟩) hS ?_
            rintro _ u96 H locs ⟨x98, rfl, b99, t97⟩ hT hS
            have hT : TW E K F (tl, [z0, z1, z2, z3, z4, z5, z6, z7, z8, u96, x71, x72, z12, z13, z14, z15, z16, z17, z18, z19, z20], [ar0, ar1, ar2, ar3, ar4, f88, ar6, ar7, ar8, ar9, ar10]) [] H := hT
            have t97 : 0 ≤ u96.toInt ∧ u96.toInt ≤ 80 := t97
            have J218 : ∀ (x100 : Int32) (H : Heap) (locs : List Loc) (ls : Array Slot), 0 ≤ u96.toInt ∧ u96.toInt ≤ 80 → x72.toInt = 0 ∨ x72.toInt = 1 → TW E K F (tl, [z0, z1, z2, z3, z4, z5, z6, z7, z8, u96, x71, x72, z12, z13, z14, z15, z16, z17, z18, z19, z20], [ar0, ar1, ar2, ar3, ar4, f88, ar6, ar7, ar8, ar9, ar10]) [] H → va_S (xA E) s.heap H locs → lv_has ls 3 [(0, .ref a)] → W p l e rm_X11_read s m args below meth c H locs 0 0 Q (F0 m 218 ls [.int x100, .int 6, .ref (F a 40)]) := by
              intro x100 H locs ls hf101 hf102 hT hS hl
              refine tst_0 S hK hT hS hk94 (at_52 (f := f88) rfl) (fun _ => bt_52 (Nat.le_of_ble_eq_true rfl)) (by decide) (by decide) xti_52 (by decide) dX11_read_218 (fun f103 H locs hu104 hT hS => ?_)
              have hT : TW E K F (tl, [z0, z1, z2, z3, z4, z5, z6, z7, z8, u96, x71, x72, z12, z13, z14, z15, z16, z17, z18, z19, z20], [ar0, ar1, ar2, ar3, ar4, f103, ar6, ar7, ar8, ar9, ar10]) [] H := hT
              have hu104 : ∀ z : Int, 0 ≤ z → aI f103 z = if z = (6 : Int) then x100.toInt else aI f88 z := fun z h9 => by have h8 := hu104 z h9; rw [show Int32.toInt 6 = (6 : Int) from by decide] at h8; exact h8
              have v105 : (aI f103 (0 : Int)) = (aI f88 (0 : Int)) := by rw [hu104 (0 : Int) (by decide)]; exact if_neg (by decide)
              have v106 : (aI f103 (1 : Int)) = (aI f88 (1 : Int)) := by rw [hu104 (1 : Int) (by decide)]; exact if_neg (by decide)
              have v107 : (aI f103 (2 : Int)) = (aI f88 (2 : Int)) := by rw [hu104 (2 : Int) (by decide)]; exact if_neg (by decide)
              have v108 : (aI f103 (3 : Int)) = (aI f88 (3 : Int)) := by rw [hu104 (3 : Int) (by decide)]; exact if_neg (by decide)
              refine lv_aload_n hx hb dX11_read_219 rfl (lv_at hl 0 rfl) ?_
              refine gX11_40 S hK hT ha kf_X11_106 dX11_read_220 (fun hk109 => ?_)
              refine lv_bipush (v := 7) hx hb dX11_read_223 (by decide) ?_
              refine lv_aload_n hx hb dX11_read_225 rfl (lv_at hl 0 rfl) ?_
              refine lv_aload_n hx hb dX11_read_226 rfl (lv_at hl 0 rfl) ?_
              refine gX11_34 S hK hT ha kf_X11_100 dX11_read_227 (fun hk110 => ?_)
              refine x_cl0 (x_runV (b := a) (As := [.ref (F a 34)]) (rest := [.int 7, .ref (F a 40)]) S (c_X11_isWord l E K F tl z0 z1 z2 z3 z4 z5 z6 z7 z8 u96 x71 x72 z12 z13 z14 z15 z16 z17 z18 z19 z20 ar0 ar1 ar2 ar3 ar4 f103 ar6 ar7 ar8 ar9 ar10 a (F a 34) 4 ha (XWd.k47 hk110) (z_X11_read_10 z8.toInt e0 (xr z8)) (z_X11_read_11 u96.toInt t97 hf101 (xr u96))) mv_X11_isWord km_X11_282 rfl rfl ⟨Nat.le_of_ble_eq_true rfl, Nat.le_of_ble_eq_true rfl⟩ (rc_13 hK hT ha) hK (fun _ => XP.blind) (fun U hU hW => XP.at hK hz hS hT hU hW) rfl hl.1 (Nat.le_of_ble_eq_true rfl) dX11_read_230 ⟨Nat.le_of_ble_eq_true rfl, Nat.le_of_ble_eq_true rfl⟩) hS ?_
              rintro _ u111 H locs ⟨x113, rfl, b114, t112⟩ hT hS
              have hT : TW E K F (tl, [z0, z1, z2, z3, z4, z5, z6, z7, z8, u111, x71, x72, z12, z13, z14, z15, z16, z17, z18, z19, z20], [ar0, ar1, ar2, ar3, ar4, f103, ar6, ar7, ar8, ar9, ar10]) [] H := hT
              have t112 : 0 ≤ u111.toInt ∧ u111.toInt ≤ 80 := t112
              have J248 : ∀ (x115 : Int32) (x116 : Int32) (x117 : Int32) (x118 : Int32) (H : Heap) (locs : List Loc) (ls : Array Slot), 0 ≤ x117.toInt ∧ x117.toInt ≤ 80 → x116.toInt = 0 ∨ x116.toInt = 1 → TW E K F (tl, [z0, z1, z2, z3, z4, z5, z6, z7, z8, x117, x115, x116, z12, z13, z14, z15, z16, z17, z18, z19, z20], [ar0, ar1, ar2, ar3, ar4, f103, ar6, ar7, ar8, ar9, ar10]) [] H → va_S (xA E) s.heap H locs → lv_has ls 3 [(0, .ref a)] → W p l e rm_X11_read s m args below meth c H locs 0 0 Q (F0 m 248 ls [.int x118, .int 7, .ref (F a 40)]) := by
                intro x115 x116 x117 x118 H locs ls hf119 hf120 hT hS hl
                refine tst_0 S hK hT hS hk109 (at_52 (f := f103) rfl) (fun _ => bt_52 (Nat.le_of_ble_eq_true rfl)) (by decide) (by decide) xti_52 (by decide) dX11_read_248 (fun f121 H locs hu122 hT hS => ?_)
                have hT : TW E K F (tl, [z0, z1, z2, z3, z4, z5, z6, z7, z8, x117, x115, x116, z12, z13, z14, z15, z16, z17, z18, z19, z20], [ar0, ar1, ar2, ar3, ar4, f121, ar6, ar7, ar8, ar9, ar10]) [] H := hT
                have hu122 : ∀ z : Int, 0 ≤ z → aI f121 z = if z = (7 : Int) then x118.toInt else aI f103 z := fun z h9 => by have h8 := hu122 z h9; rw [show Int32.toInt 7 = (7 : Int) from by decide] at h8; exact h8
                have v123 : (aI f121 (0 : Int)) = (aI f103 (0 : Int)) := by rw [hu122 (0 : Int) (by decide)]; exact if_neg (by decide)
                have v124 : (aI f121 (1 : Int)) = (aI f103 (1 : Int)) := by rw [hu122 (1 : Int) (by decide)]; exact if_neg (by decide)
                have v125 : (aI f121 (2 : Int)) = (aI f103 (2 : Int)) := by rw [hu122 (2 : Int) (by decide)]; exact if_neg (by decide)
                have v126 : (aI f121 (3 : Int)) = (aI f103 (3 : Int)) := by rw [hu122 (3 : Int) (by decide)]; exact if_neg (by decide)
                refine lv_aload_n hx hb dX11_read_249 rfl (lv_at hl 0 rfl) ?_
                refine x_cl0 (x_runV (b := a) (As := []) (rest := []) S (c_X11_next l E K F tl z0 z1 z2 z3 z4 z5 z6 z7 z8 x117 x115 x116 z12 z13 z14 z15 z16 z17 z18 z19 z20 ar0 ar1 ar2 ar3 ar4 f121 ar6 ar7 ar8 ar9 ar10 a ha (z_X11_read_12 z8.toInt e0 (xr z8)) (z_X11_read_13 x117.toInt hf119 (xr x117))) mv_X11_next km_X11_268 rfl rfl ⟨Nat.le_of_ble_eq_true rfl, Nat.le_of_ble_eq_true rfl⟩ (rc_13 hK hT ha) hK (fun _ => XP.blind) (fun U hU hW => XP.at hK hz hS hT hU hW) rfl hl.1 (Nat.le_of_ble_eq_true rfl) dX11_read_250 ⟨Nat.le_of_ble_eq_true rfl, Nat.le_of_ble_eq_true rfl⟩) hS ?_
                rintro _ u127 H locs ⟨x129, rfl, t128⟩ hT hS
                have hT : TW E K F (tl, [z0, z1, z2, z3, z4, z5, z6, z7, z8, u127, x115, x116, z12, z13, z14, z15, z16, z17, z18, z19, z20], [ar0, ar1, ar2, ar3, ar4, f121, ar6, ar7, ar8, ar9, ar10]) [] H := hT
                have t128 : x117.toInt ≤ u127.toInt ∧ u127.toInt ≤ 80 ∧ (x129.toInt ≠ 0 → u127.toInt < z8.toInt) := t128
                refine lv_pop hx hb dX11_read_253 rfl ?_
                refine lv_aload_n hx hb dX11_read_254 rfl (lv_at hl 0 rfl) ?_
                refine gX11_37 S hK hT ha kf_X11_256 dX11_read_255 (v := u127) rfl ?_
                refine lv_aload_n hx hb dX11_read_258 rfl (lv_at hl 0 rfl) ?_
                refine gX11_36 S hK hT ha kf_X11_245 dX11_read_259 (v := z8) rfl ?_
                refine xi_cge (tgt := 273) hx hb (rfl : Int32.toInt u127 = u127.toInt) (rfl : Int32.toInt z8 = z8.toInt) dX11_read_262 (by decide) (fun c131 => ?_) (fun c131 => ?_)
                · refine lv_aload_n hx hb dX11_read_273 rfl (lv_at hl 0 rfl) ?_
                  refine gX11_39 S hK hT ha kf_X11_262 dX11_read_274 (v := x116) rfl ?_
                  exact x_rz hx hb hr (xnz (x01 (z_X11_read_16 x116.toInt hf120 (xr x116)))) hlk hQ (Nat.le_of_ble_eq_true rfl) (Nat.le_of_ble_eq_true rfl) hS dX11_read_277 (u127, x115, x116, f121) ⟨_, rfl, (x01 (z_X11_read_15 x116.toInt hf120 (xr x116))), (z_X11_read_14 x19.toInt x32.toInt x44.toInt x5.toInt (aI f103 (0 : Int)) (aI f103 (1 : Int)) (aI f103 (2 : Int)) (aI f103 (3 : Int)) (aI f121 (0 : Int)) (aI f121 (1 : Int)) (aI f121 (2 : Int)) (aI f121 (3 : Int)) (aI f21 (0 : Int)) (aI f21 (1 : Int)) (aI f34 (0 : Int)) (aI f34 (1 : Int)) (aI f34 (2 : Int)) (aI f48 (0 : Int)) (aI f48 (1 : Int)) (aI f48 (2 : Int)) (aI f48 (3 : Int)) (aI f64 (0 : Int)) (aI f64 (1 : Int)) (aI f64 (2 : Int)) (aI f64 (3 : Int)) (aI f77 (0 : Int)) (aI f77 (1 : Int)) (aI f77 (2 : Int)) (aI f77 (3 : Int)) (aI f8 (0 : Int)) (aI f88 (0 : Int)) (aI f88 (1 : Int)) (aI f88 (2 : Int)) (aI f88 (3 : Int)) (t4).2.2.1 (t4).2.2.2.1 v10 (t18).2.2.1 v23 v24 (t31).2.2.1 v36 v37 v38 (hf45).1 (hf45).2.1 (hf45).2.2 v50 v51 v52 v53 v66 v67 v68 v69 v79 v80 v81 v82 v90 v91 v92 v93 v105 v106 v107 v108 v123 v124 v125 v126 (xr x19) (xr x32) (xr x44) (xr x5))⟩ hT.nil
                · refine lv_aload_n hx hb dX11_read_265 rfl (lv_at hl 0 rfl) ?_
                  refine lv_aload_n hx hb dX11_read_266 rfl (lv_at hl 0 rfl) ?_
                  refine gX11_37 S hK hT ha kf_X11_256 dX11_read_267 (v := u127) rfl ?_
                  refine x_cv0 (x_runV (b := a) (As := [.int u127]) (rest := []) S (c_X11_wrong l E K F tl z0 z1 z2 z3 z4 z5 z6 z7 z8 u127 x115 x116 z12 z13 z14 z15 z16 z17 z18 z19 z20 ar0 ar1 ar2 ar3 ar4 f121 ar6 ar7 ar8 ar9 ar10 a u127 ha) mv_X11_wrong km_X11_279 rfl rfl ⟨Nat.le_of_ble_eq_true rfl, Nat.le_of_ble_eq_true rfl⟩ (rc_13 hK hT ha) hK (fun _ => XP.blind) (fun U hU hW => XP.at hK hz hS hT hU hW) rfl hl.1 (Nat.le_of_ble_eq_true rfl) dX11_read_270 ⟨Nat.le_of_ble_eq_true rfl, Nat.le_of_ble_eq_true rfl⟩) hS ?_
                  rintro ⟨u132, u133⟩ H locs t134 hT hS
                  have hT : TW E K F (tl, [z0, z1, z2, z3, z4, z5, z6, z7, z8, u127, u132, u133, z12, z13, z14, z15, z16, z17, z18, z19, z20], [ar0, ar1, ar2, ar3, ar4, f121, ar6, ar7, ar8, ar9, ar10]) [] H := hT
                  have t134 : u133.toInt = 0 := t134
                  refine lv_aload_n hx hb dX11_read_273 rfl (lv_at hl 0 rfl) ?_
                  refine gX11_39 S hK hT ha kf_X11_262 dX11_read_274 (v := u133) rfl ?_
                  exact x_rz hx hb hr (xnz (x01 (z_X11_read_19 u133.toInt t134 (xr u133)))) hlk hQ (Nat.le_of_ble_eq_true rfl) (Nat.le_of_ble_eq_true rfl) hS dX11_read_277 (u127, u132, u133, f121) ⟨_, rfl, (x01 (z_X11_read_18 u133.toInt t134 (xr u133))), (z_X11_read_17 x19.toInt x32.toInt x44.toInt x5.toInt (aI f103 (0 : Int)) (aI f103 (1 : Int)) (aI f103 (2 : Int)) (aI f103 (3 : Int)) (aI f121 (0 : Int)) (aI f121 (1 : Int)) (aI f121 (2 : Int)) (aI f121 (3 : Int)) (aI f21 (0 : Int)) (aI f21 (1 : Int)) (aI f34 (0 : Int)) (aI f34 (1 : Int)) (aI f34 (2 : Int)) (aI f48 (0 : Int)) (aI f48 (1 : Int)) (aI f48 (2 : Int)) (aI f48 (3 : Int)) (aI f64 (0 : Int)) (aI f64 (1 : Int)) (aI f64 (2 : Int)) (aI f64 (3 : Int)) (aI f77 (0 : Int)) (aI f77 (1 : Int)) (aI f77 (2 : Int)) (aI f77 (3 : Int)) (aI f8 (0 : Int)) (aI f88 (0 : Int)) (aI f88 (1 : Int)) (aI f88 (2 : Int)) (aI f88 (3 : Int)) (t4).2.2.1 (t4).2.2.2.1 v10 (t18).2.2.1 v23 v24 (t31).2.2.1 v36 v37 v38 (hf45).1 (hf45).2.1 (hf45).2.2 v50 v51 v52 v53 v66 v67 v68 v69 v79 v80 v81 v82 v90 v91 v92 v93 v105 v106 v107 v108 v123 v124 v125 v126 (xr x19) (xr x32) (xr x44) (xr x5))⟩ hT.nil
              refine xi_zeq (tgt := 246) hx hb (rfl : Int32.toInt x113 = x113.toInt) dX11_read_233 (by decide) (fun c137 => ?_) (fun c137 => ?_)
              · refine lv_bipush (v := 50) hx hb dX11_read_246 (by decide) ?_
                exact J248 x71 x72 u111 50 _ _ _ (z_X11_read_20 u111.toInt t112 (xr u111)) (z_X11_read_21 x72.toInt hf76 hf87 hf102 (xr x72)) hT.nil hS (lv_sub hl [0] rfl)
              · refine lv_aload_n hx hb dX11_read_236 rfl (lv_at hl 0 rfl) ?_
                refine lv_iconst (v := 0) hx hb dX11_read_237 (by decide) ?_
                refine lv_bipush (v := 99) hx hb dX11_read_238 (by decide) ?_
                refine x_cl0 (x_runV (b := a) (As := [.int 0, .int 99]) (rest := [.int 7, .ref (F a 40)]) S (c_X11_number l E K F tl z0 z1 z2 z3 z4 z5 z6 z7 z8 u111 x71 x72 z12 z13 z14 z15 z16 z17 z18 z19 z20 ar0 ar1 ar2 ar3 ar4 f103 ar6 ar7 ar8 ar9 ar10 a 0 99 ha (z_X11_read_22 z8.toInt e0 (xr z8)) (z_X11_read_23 u111.toInt t112 (xr u111)) (z_X11_read_24 x72.toInt hf76 hf87 hf102 (xr x72))) mv_X11_number km_X11_289 rfl rfl ⟨Nat.le_of_ble_eq_true rfl, Nat.le_of_ble_eq_true rfl⟩ (rc_13 hK hT ha) hK (fun _ => XP.blind) (fun U hU hW => XP.at hK hz hS hT hU hW) rfl hl.1 (Nat.le_of_ble_eq_true rfl) dX11_read_240 ⟨Nat.le_of_ble_eq_true rfl, Nat.le_of_ble_eq_true rfl⟩) hS ?_
                rintro _ ⟨u138, u139, u140⟩ H locs ⟨x142, rfl, t141⟩ hT hS
                have hT : TW E K F (tl, [z0, z1, z2, z3, z4, z5, z6, z7, z8, u138, u139, u140, z12, z13, z14, z15, z16, z17, z18, z19, z20], [ar0, ar1, ar2, ar3, ar4, f103, ar6, ar7, ar8, ar9, ar10]) [] H := hT
                have t141 : 0 ≤ u138.toInt ∧ u138.toInt ≤ 80 ∧ (x142.toInt = 0 ∨ ((0 : Int) ≤ x142.toInt ∧ x142.toInt ≤ (99 : Int))) ∧ (u140.toInt = 0 ∨ u140.toInt = 1) := t141
                refine lv_goto (tgt := 248) hx hb dX11_read_243 (by decide) ?_
                exact J248 u139 u140 u138 x142 _ _ _ (z_X11_read_25 u138.toInt (t141).1 (t141).2.1 (xr u138)) (z_X11_read_26 u140.toInt (t141).2.2.2 (xr u140)) hT.nil hS (lv_sub hl [0] rfl)
            refine xi_zeq (tgt := 217) hx hb (rfl : Int32.toInt x98 = x98.toInt) dX11_read_210 (by decide) (fun c144 => ?_) (fun c144 => ?_)
            · refine lv_iconst (v := 0) hx hb dX11_read_217 (by decide) ?_
              exact J218 0 _ _ _ (z_X11_read_27 u96.toInt t97 (xr u96)) (z_X11_read_28 x72.toInt hf76 hf87 (xr x72)) hT.nil hS (lv_sub hl [0] rfl)
            · refine lv_iconst (v := 1) hx hb dX11_read_213 (by decide) ?_
              refine lv_goto (tgt := 218) hx hb dX11_read_214 (by decide) ?_
              exact J218 1 _ _ _ (z_X11_read_29 u96.toInt t97 (xr u96)) (z_X11_read_30 x72.toInt hf76 hf87 (xr x72)) hT.nil hS (lv_sub hl [0] rfl)
          refine xi_ceq (tgt := 164) hx hb (rfl : Int32.toInt x5 = x5.toInt) ((by decide) : Int32.toInt 1 = (1 : Int)) dX11_read_157 (by decide) (fun c145 => ?_) (fun c145 => ?_)
          · refine lv_aload_n hx hb dX11_read_164 rfl (lv_at hl 0 rfl) ?_
            refine lv_aload_n hx hb dX11_read_165 rfl (lv_at hl 0 rfl) ?_
            refine gX11_31 S hK hT ha kf_X11_91 dX11_read_166 (fun hk146 => ?_)
            refine x_cl0 (x_runV (b := a) (As := [.ref (F a 31)]) (rest := [.int 8, .ref (F a 40)]) S (c_X11_isWord l E K F tl z0 z1 z2 z3 z4 z5 z6 z7 z8 x73 x71 x72 z12 z13 z14 z15 z16 z17 z18 z19 z20 ar0 ar1 ar2 ar3 ar4 f77 ar6 ar7 ar8 ar9 ar10 a (F a 31) 7 ha (XWd.k50 hk146) (z_X11_read_31 z8.toInt e0 (xr z8)) (z_X11_read_32 x73.toInt hf75 (xr x73))) mv_X11_isWord km_X11_282 rfl rfl ⟨Nat.le_of_ble_eq_true rfl, Nat.le_of_ble_eq_true rfl⟩ (rc_13 hK hT ha) hK (fun _ => XP.blind) (fun U hU hW => XP.at hK hz hS hT hU hW) rfl hl.1 (Nat.le_of_ble_eq_true rfl) dX11_read_169 ⟨Nat.le_of_ble_eq_true rfl, Nat.le_of_ble_eq_true rfl⟩) hS ?_
            rintro _ u147 H locs ⟨x149, rfl, b150, t148⟩ hT hS
            have hT : TW E K F (tl, [z0, z1, z2, z3, z4, z5, z6, z7, z8, u147, x71, x72, z12, z13, z14, z15, z16, z17, z18, z19, z20], [ar0, ar1, ar2, ar3, ar4, f77, ar6, ar7, ar8, ar9, ar10]) [] H := hT
            have t148 : 0 ≤ u147.toInt ∧ u147.toInt ≤ 80 := t148
            refine xi_zeq (tgt := 179) hx hb (rfl : Int32.toInt x149 = x149.toInt) dX11_read_172 (by decide) (fun c151 => ?_) (fun c151 => ?_)
            · refine lv_aload_n hx hb dX11_read_179 rfl (lv_at hl 0 rfl) ?_
              refine lv_aload_n hx hb dX11_read_180 rfl (lv_at hl 0 rfl) ?_
              refine gX11_32 S hK hT ha kf_X11_94 dX11_read_181 (fun hk152 => ?_)
              refine x_cl0 (x_runV (b := a) (As := [.ref (F a 32)]) (rest := [.int 8, .ref (F a 40)]) S (c_X11_isWord l E K F tl z0 z1 z2 z3 z4 z5 z6 z7 z8 u147 x71 x72 z12 z13 z14 z15 z16 z17 z18 z19 z20 ar0 ar1 ar2 ar3 ar4 f77 ar6 ar7 ar8 ar9 ar10 a (F a 32) 5 ha (XWd.k48 hk152) (z_X11_read_33 z8.toInt e0 (xr z8)) (z_X11_read_34 u147.toInt t148 (xr u147))) mv_X11_isWord km_X11_282 rfl rfl ⟨Nat.le_of_ble_eq_true rfl, Nat.le_of_ble_eq_true rfl⟩ (rc_13 hK hT ha) hK (fun _ => XP.blind) (fun U hU hW => XP.at hK hz hS hT hU hW) rfl hl.1 (Nat.le_of_ble_eq_true rfl) dX11_read_184 ⟨Nat.le_of_ble_eq_true rfl, Nat.le_of_ble_eq_true rfl⟩) hS ?_
              rintro _ u153 H locs ⟨x155, rfl, b156, t154⟩ hT hS
              have hT : TW E K F (tl, [z0, z1, z2, z3, z4, z5, z6, z7, z8, u153, x71, x72, z12, z13, z14, z15, z16, z17, z18, z19, z20], [ar0, ar1, ar2, ar3, ar4, f77, ar6, ar7, ar8, ar9, ar10]) [] H := hT
              have t154 : 0 ≤ u153.toInt ∧ u153.toInt ≤ 80 := t154
              refine xi_zeq (tgt := 194) hx hb (rfl : Int32.toInt x155 = x155.toInt) dX11_read_187 (by decide) (fun c157 => ?_) (fun c157 => ?_)
              · refine lv_iconst (v := 0) hx hb dX11_read_194 (by decide) ?_
                exact J195 u153 0 _ _ _ (z_X11_read_35 u153.toInt t154 (xr u153)) (z_X11_read_36 x72.toInt hf76 (xr x72)) hT.nil hS (lv_sub hl [0] rfl)
              · refine lv_iconst (v := 2) hx hb dX11_read_190 (by decide) ?_
                refine lv_goto (tgt := 195) hx hb dX11_read_191 (by decide) ?_
                exact J195 u153 2 _ _ _ (z_X11_read_37 u153.toInt t154 (xr u153)) (z_X11_read_38 x72.toInt hf76 (xr x72)) hT.nil hS (lv_sub hl [0] rfl)
            · refine lv_iconst (v := 1) hx hb dX11_read_175 (by decide) ?_
              refine lv_goto (tgt := 195) hx hb dX11_read_176 (by decide) ?_
              exact J195 u147 1 _ _ _ (z_X11_read_39 u147.toInt t148 (xr u147)) (z_X11_read_40 x72.toInt hf76 (xr x72)) hT.nil hS (lv_sub hl [0] rfl)
          · refine lv_iconst (v := 0) hx hb dX11_read_160 (by decide) ?_
            refine lv_goto (tgt := 195) hx hb dX11_read_161 (by decide) ?_
            exact J195 x73 0 _ _ _ (z_X11_read_41 x73.toInt hf75 (xr x73)) (z_X11_read_42 x72.toInt hf76 (xr x72)) hT.nil hS (lv_sub hl [0] rfl)
        refine xi_zeq (tgt := 147) hx hb (rfl : Int32.toInt x54 = x54.toInt) dX11_read_128 (by decide) (fun c158 => ?_) (fun c158 => ?_)
        · refine lv_iconst (v := 0) hx hb dX11_read_147 (by decide) ?_
          exact J148 x58 x59 x60 0 _ _ _ (z_X11_read_43 x60.toInt hf62 (xr x60)) (z_X11_read_44 x59.toInt hf63 (xr x59)) hT.nil hS (lv_sub hl [0, 1] rfl)
        · refine lv_aload_n hx hb dX11_read_131 rfl (lv_at hl 0 rfl) ?_
          refine lv_aload_n hx hb dX11_read_132 rfl (lv_at hl 0 rfl) ?_
          refine gX11_40 S hK hT ha kf_X11_106 dX11_read_133 (fun hk159 => ?_)
          refine lv_iconst (v := 4) hx hb dX11_read_136 (by decide) ?_
          refine tld_0 S hK hT hk159 (at_52 (f := f64) rfl) (by decide) (by decide) dX11_read_137 (fun x160 w161 o162 => ?_)
          have w161 : x160.toInt = (aI f64 (4 : Int)) := w161.trans (congrArg (aI f64) (show Int32.toInt 4 = (4 : Int) by decide))
          refine lv_sipush (v := 9999) hx hb dX11_read_138 (by decide) ?_
          refine x_cl0 (x_runV (b := a) (As := [.int x160, .int 9999]) (rest := [.int 5, .ref (F a 40)]) S (c_X11_number l E K F tl z0 z1 z2 z3 z4 z5 z6 z7 z8 x60 x58 x59 z12 z13 z14 z15 z16 z17 z18 z19 z20 ar0 ar1 ar2 ar3 ar4 f64 ar6 ar7 ar8 ar9 ar10 a x160 9999 ha (z_X11_read_45 z8.toInt e0 (xr z8)) (z_X11_read_46 x60.toInt hf62 (xr x60)) (z_X11_read_47 x59.toInt hf63 (xr x59))) mv_X11_number km_X11_289 rfl rfl ⟨Nat.le_of_ble_eq_true rfl, Nat.le_of_ble_eq_true rfl⟩ (rc_13 hK hT ha) hK (fun _ => XP.blind) (fun U hU hW => XP.at hK hz hS hT hU hW) rfl hl.1 (Nat.le_of_ble_eq_true rfl) dX11_read_141 ⟨Nat.le_of_ble_eq_true rfl, Nat.le_of_ble_eq_true rfl⟩) hS ?_
          rintro _ ⟨u164, u165, u166⟩ H locs ⟨x168, rfl, t167⟩ hT hS
          have hT : TW E K F (tl, [z0, z1, z2, z3, z4, z5, z6, z7, z8, u164, u165, u166, z12, z13, z14, z15, z16, z17, z18, z19, z20], [ar0, ar1, ar2, ar3, ar4, f64, ar6, ar7, ar8, ar9, ar10]) [] H := hT
          have t167 : 0 ≤ u164.toInt ∧ u164.toInt ≤ 80 ∧ (x168.toInt = 0 ∨ (x160.toInt ≤ x168.toInt ∧ x168.toInt ≤ (9999 : Int))) ∧ (u166.toInt = 0 ∨ u166.toInt = 1) := t167
          refine lv_goto (tgt := 148) hx hb dX11_read_144 (by decide) ?_
          exact J148 u165 u166 u164 x168 _ _ _ (z_X11_read_48 u164.toInt (t167).1 (t167).2.1 (xr u164)) (z_X11_read_49 u166.toInt (t167).2.2.2 (xr u166)) hT.nil hS (lv_sub hl [0, 1] rfl)
      refine xi_zeq (tgt := 120) hx hb (rfl : Int32.toInt x54 = x54.toInt) dX11_read_104 (by decide) (fun c170 => ?_) (fun c170 => ?_)
      · refine lv_iconst (v := 0) hx hb dX11_read_120 (by decide) ?_
        exact J121 x41 x42 x43 0 _ _ _ (z_X11_read_50 x43.toInt hf46 hf55 (xr x43)) (z_X11_read_51 x42.toInt hf47 hf56 (xr x42)) hT.nil hS (lv_sub hl [1, 2, 0] rfl)
      · refine lv_aload_n hx hb dX11_read_107 rfl (lv_at hl 1 rfl) ?_
        refine lv_sipush (v := (-9999)) hx hb dX11_read_108 (by decide) ?_
        refine lv_sipush (v := 9999) hx hb dX11_read_111 (by decide) ?_
        refine x_cl0 (x_runV (b := a) (As := [.int (-9999), .int 9999]) (rest := [.int 4, .ref (F a 40)]) S (c_X11_number l E K F tl z0 z1 z2 z3 z4 z5 z6 z7 z8 x43 x41 x42 z12 z13 z14 z15 z16 z17 z18 z19 z20 ar0 ar1 ar2 ar3 ar4 f48 ar6 ar7 ar8 ar9 ar10 a (-9999) 9999 ha (z_X11_read_52 z8.toInt e0 (xr z8)) (z_X11_read_53 x43.toInt hf46 hf55 (xr x43)) (z_X11_read_54 x42.toInt hf47 hf56 (xr x42))) mv_X11_number km_X11_289 rfl rfl ⟨Nat.le_of_ble_eq_true rfl, Nat.le_of_ble_eq_true rfl⟩ (rc_13 hK hT ha) hK (fun _ => XP.blind) (fun U hU hW => XP.at hK hz hS hT hU hW) rfl hl.1 (Nat.le_of_ble_eq_true rfl) dX11_read_114 ⟨Nat.le_of_ble_eq_true rfl, Nat.le_of_ble_eq_true rfl⟩) hS ?_
        rintro _ ⟨u171, u172, u173⟩ H locs ⟨x175, rfl, t174⟩ hT hS
        have hT : TW E K F (tl, [z0, z1, z2, z3, z4, z5, z6, z7, z8, u171, u172, u173, z12, z13, z14, z15, z16, z17, z18, z19, z20], [ar0, ar1, ar2, ar3, ar4, f48, ar6, ar7, ar8, ar9, ar10]) [] H := hT
        have t174 : 0 ≤ u171.toInt ∧ u171.toInt ≤ 80 ∧ (x175.toInt = 0 ∨ ((-9999 : Int) ≤ x175.toInt ∧ x175.toInt ≤ (9999 : Int))) ∧ (u173.toInt = 0 ∨ u173.toInt = 1) := t174
        refine lv_goto (tgt := 121) hx hb dX11_read_117 (by decide) ?_
        exact J121 u172 u173 u171 x175 _ _ _ (z_X11_read_55 u171.toInt (t174).1 (t174).2.1 (xr u171)) (z_X11_read_56 u173.toInt (t174).2.2.2 (xr u173)) hT.nil hS (lv_sub hl [1, 2, 0] rfl)
    have J92 : ∀ (H : Heap) (locs : List Loc) (ls : Array Slot), 0 ≤ x43.toInt ∧ x43.toInt ≤ 80 → x42.toInt = 0 ∨ x42.toInt = 1 → TW E K F (tl, [z0, z1, z2, z3, z4, z5, z6, z7, z8, x43, x41, x42, z12, z13, z14, z15, z16, z17, z18, z19, z20], [ar0, ar1, ar2, ar3, ar4, f48, ar6, ar7, ar8, ar9, ar10]) [] H → va_S (xA E) s.heap H locs → lv_has ls 3 [(0, .ref a), (1, .int x5)] → W p l e rm_X11_read s m args below meth c H locs 0 0 Q (F0 m 92 ls []) := by
      intro H locs ls hf177 hf178 hT hS hl
      refine lv_iconst (v := 1) hx hb dX11_read_92 (by decide) ?_
      refine lv_goto (tgt := 97) hx hb dX11_read_93 (by decide) ?_
      exact J97 1 _ _ _ (z_X11_read_57 x43.toInt hf46 hf177 (xr x43)) (z_X11_read_58 x42.toInt hf47 hf178 (xr x42)) hT.nil hS (lv_sub hl [0, 1] rfl)
    refine xi_ceq (tgt := 92) hx hb (rfl : Int32.toInt x5 = x5.toInt) ((by decide) : Int32.toInt 2 = (2 : Int)) dX11_read_79 (by decide) (fun c179 => ?_) (fun c179 => ?_)
    · exact J92 _ _ _ (z_X11_read_59 x43.toInt hf46 (xr x43)) (z_X11_read_60 x42.toInt hf47 (xr x42)) hT.nil hS (lv_sub hl [0, 1] rfl)
    · refine lv_iload_n hx hb dX11_read_82 rfl (lv_at hl 1 rfl) ?_
      refine lv_iconst (v := 3) hx hb dX11_read_83 (by decide) ?_
      refine xi_ceq (tgt := 92) hx hb (rfl : Int32.toInt x5 = x5.toInt) ((by decide) : Int32.toInt 3 = (3 : Int)) dX11_read_84 (by decide) (fun c180 => ?_) (fun c180 => ?_)
      · exact J92 _ _ _ (z_X11_read_61 x43.toInt hf46 (xr x43)) (z_X11_read_62 x42.toInt hf47 (xr x42)) hT.nil hS (lv_sub hl [0, 1] rfl)
      · refine lv_iload_n hx hb dX11_read_87 rfl (lv_at hl 1 rfl) ?_
        refine lv_iconst (v := 4) hx hb dX11_read_88 (by decide) ?_
        refine xi_cne (tgt := 96) hx hb (rfl : Int32.toInt x5 = x5.toInt) ((by decide) : Int32.toInt 4 = (4 : Int)) dX11_read_89 (by decide) (fun c181 => ?_) (fun c181 => ?_)
        · refine lv_iconst (v := 0) hx hb dX11_read_96 (by decide) ?_
          exact J97 0 _ _ _ (z_X11_read_63 x43.toInt hf46 (xr x43)) (z_X11_read_64 x42.toInt hf47 (xr x42)) hT.nil hS (lv_sub hl [0, 1] rfl)
        · exact J92 _ _ _ (z_X11_read_65 x43.toInt hf46 (xr x43)) (z_X11_read_66 x42.toInt hf47 (xr x42)) hT.nil hS (lv_sub hl [0, 1] rfl)
  have J66 : ∀ (H : Heap) (locs : List Loc) (ls : Array Slot), 0 ≤ u28.toInt ∧ u28.toInt ≤ 80 → u30.toInt = 0 ∨ u30.toInt = 1 → TW E K F (tl, [z0, z1, z2, z3, z4, z5, z6, z7, z8, u28, u29, u30, z12, z13, z14, z15, z16, z17, z18, z19, z20], [ar0, ar1, ar2, ar3, ar4, f34, ar6, ar7, ar8, ar9, ar10]) [] H → va_S (xA E) s.heap H locs → lv_has ls 3 [(0, .ref a), (1, .int x5)] → W p l e rm_X11_read s m args below meth c H locs 0 0 Q (F0 m 66 ls [.int 3, .ref (F a 40)]) := by
    intro H locs ls hf182 hf183 hT hS hl
    refine lv_aload_n hx hb dX11_read_66 rfl (lv_at hl 0 rfl) ?_
    refine lv_iconst (v := 0) hx hb dX11_read_67 (by decide) ?_
    refine lv_iconst (v := 2) hx hb dX11_read_68 (by decide) ?_
    refine x_cl0 (x_runV (b := a) (As := [.int 0, .int 2]) (rest := [.int 3, .ref (F a 40)]) S (c_X11_number l E K F tl z0 z1 z2 z3 z4 z5 z6 z7 z8 u28 u29 u30 z12 z13 z14 z15 z16 z17 z18 z19 z20 ar0 ar1 ar2 ar3 ar4 f34 ar6 ar7 ar8 ar9 ar10 a 0 2 ha (z_X11_read_67 z8.toInt e0 (xr z8)) (z_X11_read_68 u28.toInt (t31).1 (t31).2.1 hf182 (xr u28)) (z_X11_read_69 u30.toInt (t31).2.2.2 hf183 (xr u30))) mv_X11_number km_X11_289 rfl rfl ⟨Nat.le_of_ble_eq_true rfl, Nat.le_of_ble_eq_true rfl⟩ (rc_13 hK hT ha) hK (fun _ => XP.blind) (fun U hU hW => XP.at hK hz hS hT hU hW) rfl hl.1 (Nat.le_of_ble_eq_true rfl) dX11_read_69 ⟨Nat.le_of_ble_eq_true rfl, Nat.le_of_ble_eq_true rfl⟩) hS ?_
    rintro _ ⟨u184, u185, u186⟩ H locs ⟨x188, rfl, t187⟩ hT hS
    have hT : TW E K F (tl, [z0, z1, z2, z3, z4, z5, z6, z7, z8, u184, u185, u186, z12, z13, z14, z15, z16, z17, z18, z19, z20], [ar0, ar1, ar2, ar3, ar4, f34, ar6, ar7, ar8, ar9, ar10]) [] H := hT
    have t187 : 0 ≤ u184.toInt ∧ u184.toInt ≤ 80 ∧ (x188.toInt = 0 ∨ ((0 : Int) ≤ x188.toInt ∧ x188.toInt ≤ (2 : Int))) ∧ (u186.toInt = 0 ∨ u186.toInt = 1) := t187
    refine lv_goto (tgt := 76) hx hb dX11_read_72 (by decide) ?_
    exact J76 u185 u186 u184 x188 _ _ _ (z_X11_read_70 x188.toInt x5.toInt (aI f21 (0 : Int)) (aI f34 (0 : Int)) (aI f8 (0 : Int)) (t4).2.2.1 (t4).2.2.2.1 v10 v23 v36 (t187).2.2.1 (xr x188) (xr x5)) (z_X11_read_71 u184.toInt (t187).1 (t187).2.1 (xr u184)) (z_X11_read_72 u186.toInt (t187).2.2.2 (xr u186)) hT.nil hS (lv_sub hl [0, 1] rfl)
  refine xi_ceq (tgt := 66) hx hb (rfl : Int32.toInt x5 = x5.toInt) ((by decide) : Int32.toInt 1 = (1 : Int)) dX11_read_53 (by decide) (fun c190 => ?_) (fun c190 => ?_)
  · exact J66 _ _ _ (z_X11_read_73 u28.toInt (t31).1 (t31).2.1 (xr u28)) (z_X11_read_74 u30.toInt (t31).2.2.2 (xr u30)) hT.nil hS (lv_sub hl [1, 0] rfl)
  · refine lv_iload_n hx hb dX11_read_56 rfl (lv_at hl 0 rfl) ?_
    refine lv_iconst (v := 3) hx hb dX11_read_57 (by decide) ?_
    refine xi_ceq (tgt := 66) hx hb (rfl : Int32.toInt x5 = x5.toInt) ((by decide) : Int32.toInt 3 = (3 : Int)) dX11_read_58 (by decide) (fun c191 => ?_) (fun c191 => ?_)
    · exact J66 _ _ _ (z_X11_read_75 u28.toInt (t31).1 (t31).2.1 (xr u28)) (z_X11_read_76 u30.toInt (t31).2.2.2 (xr u30)) hT.nil hS (lv_sub hl [1, 0] rfl)
    · refine lv_iload_n hx hb dX11_read_61 rfl (lv_at hl 0 rfl) ?_
      refine lv_iconst (v := 4) hx hb dX11_read_62 (by decide) ?_
      refine xi_cne (tgt := 75) hx hb (rfl : Int32.toInt x5 = x5.toInt) ((by decide) : Int32.toInt 4 = (4 : Int)) dX11_read_63 (by decide) (fun c192 => ?_) (fun c192 => ?_)
      · refine lv_iconst (v := (-1)) hx hb dX11_read_75 (by decide) ?_
        exact J76 u29 u30 u28 (-1) _ _ _ (z_X11_read_77 x5.toInt (aI f21 (0 : Int)) (aI f34 (0 : Int)) (aI f8 (0 : Int)) (t4).2.2.1 (t4).2.2.2.1 v10 v23 v36 c190 c191 c192 (xr x5)) (z_X11_read_78 u28.toInt (t31).1 (t31).2.1 (xr u28)) (z_X11_read_79 u30.toInt (t31).2.2.2 (xr u30)) hT.nil hS (lv_sub hl [1, 0] rfl)
      · exact J66 _ _ _ (z_X11_read_80 u28.toInt (t31).1 (t31).2.1 (xr u28)) (z_X11_read_81 u30.toInt (t31).2.2.2 (xr u30)) hT.nil hS (lv_sub hl [1, 0] rfl)
