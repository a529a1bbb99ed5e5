theorem z_X11_leansOn_1 (a0 : Int) (h0 : (0 : Int) ≤ a0) (r0 : -2147483648 ≤ a0 ∧ a0 < 2147483648) : ¬ (2147483648 - a0 < ((0 : Nat) : Int)) := by omega
theorem z_X11_leansOn_2 (a0 : Int) (h0 : a0 = 0 ∨ a0 = 1) (r0 : -2147483648 ≤ a0 ∧ a0 < 2147483648) : a0 = 0 ∨ a0 = 1 := by omega
theorem z_X11_leansOn_3 (a0 : Int) (a1 : Int) (a2 : Nat) (h0 : (0 : Int) ≤ a1) (h1 : 2147483648 - a1 < ((a2 + 1 : Nat) : Int)) (h2 : ¬ ((12 : Int) ≤ a1)) (h3 : a0 = a1 + 1 ∨ a1 + 1 < -2147483648 ∨ 2147483648 ≤ a1 + 1) (r0 : -2147483648 ≤ a0 ∧ a0 < 2147483648) (r1 : -2147483648 ≤ a1 ∧ a1 < 2147483648) : (0 : Int) ≤ a0 := by omega
theorem z_X11_leansOn_4 (a0 : Int) (a1 : Int) (a2 : Nat) (h0 : (0 : Int) ≤ a1) (h1 : 2147483648 - a1 < ((a2 + 1 : Nat) : Int)) (h2 : ¬ ((12 : Int) ≤ a1)) (h3 : a0 = a1 + 1 ∨ a1 + 1 < -2147483648 ∨ 2147483648 ≤ a1 + 1) (r0 : -2147483648 ≤ a0 ∧ a0 < 2147483648) (r1 : -2147483648 ≤ a1 ∧ a1 < 2147483648) : 2147483648 - a0 < ((a2 : Nat) : Int) := by omega
theorem z_X11_leansOn_5 (a0 : Int) (a1 : Int) (a2 : Nat) (a3 : Int) (h0 : (0 : Int) ≤ a0) (h1 : 2147483648 - a0 < ((a2 + 1 : Nat) : Int)) (h2 : ¬ ((12 : Int) ≤ a0)) (h3 : a1 = 0 ∨ (a1 = 1 ∧ 0 ≤ a0 ∧ a0 ≤ 11 ∧ 0 ≤ a3)) (h4 : a1 = 0 ∨ a1 = 1) (h5 : ¬ (a1 = 0)) (r0 : -2147483648 ≤ a0 ∧ a0 < 2147483648) (r1 : -2147483648 ≤ a1 ∧ a1 < 2147483648) : 0 ≤ a0 ∧ a0 ≤ 11 := by first | (clear h4 h5; omega) | omega
theorem z_X11_leansOn_6 (a0 : Int) (a1 : Int) (a2 : Int) (a3 : Nat) (a4 : Int) (h0 : (0 : Int) ≤ a0) (h1 : 2147483648 - a0 < ((a3 + 1 : Nat) : Int)) (h2 : ¬ ((12 : Int) ≤ a0)) (h3 : a1 = 0 ∨ (a1 = 1 ∧ 0 ≤ a0 ∧ a0 ≤ 11 ∧ 0 ≤ a4)) (h4 : a1 = 0 ∨ a1 = 1) (h5 : ¬ (a1 = 0)) (h6 : a2 = a4) (r0 : -2147483648 ≤ a0 ∧ a0 < 2147483648) (r1 : -2147483648 ≤ a1 ∧ a1 < 2147483648) (r2 : -2147483648 ≤ a2 ∧ a2 < 2147483648) : 0 ≤ a0 ∧ a0 ≤ 11 := by first | (clear h4 h5; omega) | omega
theorem z_X11_leansOn_7 (a0 : Int) (a1 : Int) (a2 : Int) (a3 : Nat) (a4 : Int) (a5 : Int) (h0 : (0 : Int) ≤ a0) (h1 : 2147483648 - a0 < ((a3 + 1 : Nat) : Int)) (h2 : ¬ ((12 : Int) ≤ a0)) (h3 : a1 = 0 ∨ (a1 = 1 ∧ 0 ≤ a0 ∧ a0 ≤ 11 ∧ 0 ≤ a4)) (h4 : a1 = 0 ∨ a1 = 1) (h5 : ¬ (a1 = 0)) (h6 : a2 = a4) (h7 : -1 ≤ a4 ∧ a4 ≤ 5) (h8 : -1 ≤ a5 ∧ a5 ≤ 2) (h9 : a4 = 1 ∨ a4 = 3 ∨ a4 = 4 → 0 ≤ a5) (h10 : ¬ (a2 ≠ (1 : Int))) (r0 : -2147483648 ≤ a0 ∧ a0 < 2147483648) (r1 : -2147483648 ≤ a1 ∧ a1 < 2147483648) (r2 : -2147483648 ≤ a2 ∧ a2 < 2147483648) : 0 ≤ a0 ∧ a0 ≤ 11 := by first | (clear h4 h5 h9 h10; omega) | (clear h10; omega) | omega
theorem z_X11_leansOn_8 (a0 : Int) (a1 : Int) (a2 : Int) (a3 : Int) (a4 : Int) (a5 : Nat) (a6 : Int) (a7 : Int) (h0 : (0 : Int) ≤ a1) (h1 : 2147483648 - a1 < ((a5 + 1 : Nat) : Int)) (h2 : ¬ ((12 : Int) ≤ a1)) (h3 : a2 = 0 ∨ (a2 = 1 ∧ 0 ≤ a1 ∧ a1 ≤ 11 ∧ 0 ≤ a6)) (h4 : a2 = 0 ∨ a2 = 1) (h5 : ¬ (a2 = 0)) (h6 : a3 = a6) (h7 : -1 ≤ a6 ∧ a6 ≤ 5) (h8 : -1 ≤ a7 ∧ a7 ≤ 2) (h9 : a6 = 1 ∨ a6 = 3 ∨ a6 = 4 → 0 ≤ a7) (h10 : ¬ (a3 ≠ (1 : Int))) (h11 : a4 = a7) (h12 : ¬ (a4 ≠ a0)) (r0 : -2147483648 ≤ a0 ∧ a0 < 2147483648) (r1 : -2147483648 ≤ a1 ∧ a1 < 2147483648) (r2 : -2147483648 ≤ a2 ∧ a2 < 2147483648) (r3 : -2147483648 ≤ a3 ∧ a3 < 2147483648) (r4 : -2147483648 ≤ a4 ∧ a4 < 2147483648) : 0 ≤ a1 ∧ a1 ≤ 11 := by first | (clear h4 h5 h9 h10 h12; omega) | (clear h10 h12; omega) | omega
theorem z_X11_leansOn_9 (a0 : Int) (a1 : Int) (a2 : Int) (a3 : Int) (a4 : Int) (a5 : Nat) (a6 : Int) (a7 : Int) (h0 : (0 : Int) ≤ a1) (h1 : 2147483648 - a1 < ((a5 + 1 : Nat) : Int)) (h2 : ¬ ((12 : Int) ≤ a1)) (h3 : a2 = 0 ∨ (a2 = 1 ∧ 0 ≤ a1 ∧ a1 ≤ 11 ∧ 0 ≤ a6)) (h4 : a2 = 0 ∨ a2 = 1) (h5 : ¬ (a2 = 0)) (h6 : a3 = a6) (h7 : -1 ≤ a6 ∧ a6 ≤ 5) (h8 : -1 ≤ a7 ∧ a7 ≤ 2) (h9 : a6 = 1 ∨ a6 = 3 ∨ a6 = 4 → 0 ≤ a7) (h10 : ¬ (a3 ≠ (1 : Int))) (h11 : a4 = a7) (h12 : ¬ (a4 ≠ a0)) (r0 : -2147483648 ≤ a0 ∧ a0 < 2147483648) (r1 : -2147483648 ≤ a1 ∧ a1 < 2147483648) (r2 : -2147483648 ≤ a2 ∧ a2 < 2147483648) (r3 : -2147483648 ≤ a3 ∧ a3 < 2147483648) (r4 : -2147483648 ≤ a4 ∧ a4 < 2147483648) : 0 ≤ a1 ∧ a1 ≤ 11 := by first | (clear h4 h5 h9 h10 h12; omega) | (clear h10 h12; omega) | omega
theorem z_X11_leansOn_10 (a0 : Int) (a1 : Int) (a2 : Int) (a3 : Int) (a4 : Int) (a5 : Int) (a6 : Int) (a7 : Int) (a8 : Int) (h0 : 0 ≤ a0 ∧ a0 ≤ 2) (h1 : 0 ≤ a1 ∧ a1 ≤ 29) (h2 : 0 ≤ a7 ∧ a7 ≤ 2) (h3 : 0 ≤ a8 ∧ a8 ≤ 2) (h4 : a2 = a7) (h5 : ¬ (a2 ≠ a0)) (h6 : 0 ≤ a0 ∧ a0 ≤ 2 ∧ 0 ≤ a1 ∧ a1 ≤ 29 → a3 = 4 * (30 * a0 + a1)) (h7 : a4 = a3 + (1 : Int) ∨ a3 + (1 : Int) < -2147483648 ∨ 2147483648 ≤ a3 + (1 : Int)) (h8 : a5 = a8) (h9 : a6 = a4 + a5 ∨ a4 + a5 < -2147483648 ∨ 2147483648 ≤ a4 + a5) (r0 : -2147483648 ≤ a0 ∧ a0 < 2147483648) (r1 : -2147483648 ≤ a1 ∧ a1 < 2147483648) (r2 : -2147483648 ≤ a2 ∧ a2 < 2147483648) (r3 : -2147483648 ≤ a3 ∧ a3 < 2147483648) (r4 : -2147483648 ≤ a4 ∧ a4 < 2147483648) (r5 : -2147483648 ≤ a5 ∧ a5 < 2147483648) (r6 : -2147483648 ≤ a6 ∧ a6 < 2147483648) : 0 ≤ a6 ∧ a6 < ((360 : Nat) : Int) := by first | (clear h5 h6 h7; omega) | (clear h5 h6; omega) | (clear h5; omega) | omega
abbrev rm_X11_leansOn : Room := { frames := 3, cells := 0, slots := 0, locals := 67 }
set_option maxHeartbeats 4000000 in
set_option maxRecDepth 100000 in
theorem c_X11_leansOn (l : Launch) (E : XE) (K : Nat → Nat) (F : Nat → Nat → Nat) (tl z0 z1 z2 z3 z4 z5 z6 z7 z8 z9 z10 z11 z12 z13 z14 z15 z16 z17 z18 z19 z20 : Int32) (ar0 ar1 ar2 ar3 ar4 ar5 ar6 ar7 ar8 ar9 ar10 : Nat → Int32) (h0 : Heap) (a : Nat) (p0 : Int32) (p1 : Int32) (p2 : Int32) (p3 : Int32) (ha : K a = 13) (hR : RV ar1) (e0 : 0 ≤ p0.toInt ∧ p0.toInt ≤ 2) (e1 : 0 ≤ p1.toInt ∧ p1.toInt ≤ 29) : Met l yX11_leansOn (xw yX11_leansOn cX11_leansOn 7 (some .boolean)) rm_X11_leansOn (va_Pc [.ref a, .int p0, .int p1, .int p2, .int p3] (XPh E K F (tl, [z0, z1, z2, z3, z4, z5, z6, z7, z8, z9, z10, z11, z12, z13, z14, z15, z16, z17, z18, z19, z20], [ar0, ar1, ar2, ar3, ar4, ar5, ar6, ar7, ar8, ar9, ar10]) h0)) (XQ E (fun v (u : Unit) => ∃ r : Int32, v = .int r ∧ (r = 0 ∨ r = 1)) (fun _ H => H = h0)) 0 0 (xA E) := by
  refine x_enter (by decide) (Nat.le_of_ble_eq_true rfl) ?_
  intro p e s m args below meth c Q S hr hlk hnm hQ hP ls hl
  obtain ⟨⟨hz, hK, hT⟩, hh⟩ := hP
  obtain ⟨hx, hb, -, -, -⟩ := id S
  have hS : va_S (xA E) s.heap s.heap [] := va_S.rf
  have hl : lv_has ls 7 [(0, .ref a), (1, .int p0), (2, .int p1), (3, .int p2), (4, .int p3)] := hl
  refine lv_iconst (v := 0) hx hb dX11_leansOn_0 (by decide) ?_
  refine lv_istore (lv' := [(5, .int 0), (0, .ref a), (1, .int p0), (2, .int p1), (3, .int p2), (4, .int p3)]) hx hb dX11_leansOn_1 hl (by decide) rfl (fun ls hl => ?_)
  refine lv_iconst (v := 0) hx hb dX11_leansOn_3 (by decide) ?_
  refine lv_istore (lv' := [(6, .int 0), (5, .int 0), (0, .ref a), (1, .int p0), (2, .int p1), (3, .int p2), (4, .int p3)]) hx hb dX11_leansOn_4 hl (by decide) rfl (fun ls hl => ?_)
  have L6 : ∀ (N3 : Nat) (x1 : Int32) (x2 : Int32) (locs : List Loc) (ls : Array Slot), x1.toInt = 0 ∨ x1.toInt = 1 → (0 : Int) ≤ x2.toInt → 2147483648 - x2.toInt < ((N3 : Nat) : Int) → TW E K F (tl, [z0, z1, z2, z3, z4, z5, z6, z7, z8, z9, z10, z11, z12, z13, z14, z15, z16, z17, z18, z19, z20], [ar0, ar1, ar2, ar3, ar4, ar5, ar6, ar7, ar8, ar9, ar10]) [] s.heap → va_S (xA E) s.heap s.heap locs → lv_has ls 7 [(0, .ref a), (1, .int p0), (2, .int p1), (3, .int p2), (4, .int p3), (5, .int x1), (6, .int x2)] → W p l e rm_X11_leansOn s m args below meth c s.heap locs 0 0 Q (F0 m 6 ls []) := by
    intro N3
    induction N3 with
    | zero =>
      intro x1 x2 locs ls hf4 hf5 hm6
      exact absurd hm6 (z_X11_leansOn_1 x2.toInt hf5 (xr x2))
    | succ N3 ih7 =>
      intro x1 x2 locs ls hf4 hf5 hm6 hT hS hl
      refine lv_iload hx hb dX11_leansOn_6 (lv_at hl 6 rfl) ?_
      refine lv_bipush (v := 12) hx hb dX11_leansOn_8 (by decide) ?_
      refine xi_cge (tgt := 98) hx hb (rfl : Int32.toInt x2 = x2.toInt) ((by decide) : Int32.toInt 12 = (12 : Int)) dX11_leansOn_10 (by decide) (fun c8 => ?_) (fun c8 => ?_)
      · refine lv_iload hx hb dX11_leansOn_98 (lv_at hl 5 rfl) ?_
        refine xi_zeq (tgt := 116) hx hb (rfl : Int32.toInt x1 = x1.toInt) dX11_leansOn_100 (by decide) (fun c9 => ?_) (fun c9 => ?_)
        · refine lv_iconst (v := 0) hx hb dX11_leansOn_116 (by decide) ?_
          exact x_rz hx hb hr (xnz (Or.inl rfl)) hlk hQ (Nat.le_of_ble_eq_true rfl) (Nat.le_of_ble_eq_true rfl) hS dX11_leansOn_117 () ⟨_, rfl, (Or.inl rfl)⟩ hh
        · refine lv_aload_n hx hb dX11_leansOn_103 rfl (lv_at hl 0 rfl) ?_
          refine lv_iload_n hx hb dX11_leansOn_104 rfl (lv_at hl 1 rfl) ?_
          refine lv_iload_n hx hb dX11_leansOn_105 rfl (lv_at hl 2 rfl) ?_
          refine x_clp (x_runV (b := a) (As := [.int p0, .int p1]) (rest := []) S (c_X11_isRow l E K F tl z0 z1 z2 z3 z4 z5 z6 z7 z8 z9 z10 z11 z12 z13 z14 z15 z16 z17 z18 z19 z20 ar0 ar1 ar2 ar3 ar4 ar5 ar6 ar7 ar8 ar9 ar10 s.heap a p0 p1 ha) mv_X11_isRow km_X11_346 rfl rfl ⟨Nat.le_of_ble_eq_true rfl, Nat.le_of_ble_eq_true rfl⟩ (rc_13 hK hT ha) hK (fun _ => XPh.blind) (fun U hU hW => XPh.at hK hz hS hT hU hW) rfl hl.1 (Nat.le_of_ble_eq_true rfl) dX11_leansOn_106 ⟨Nat.le_of_ble_eq_true rfl, Nat.le_of_ble_eq_true rfl⟩) hS ?_
          rintro _ _ locs ⟨x11, rfl, b12, t10⟩ hS
          have t10 : x11.toInt = 0 ∨ (x11.toInt = 1 ∧ 0 ≤ p0.toInt ∧ p0.toInt ≤ 2 ∧ 0 ≤ p1.toInt ∧ p1.toInt ≤ 29 ∧ (aI ar0 (4 * (30 * p0.toInt + p1.toInt))) = 1) := t10
          refine xi_zeq (tgt := 116) hx hb (rfl : Int32.toInt x11 = x11.toInt) dX11_leansOn_109 (by decide) (fun c13 => ?_) (fun c13 => ?_)
          · refine lv_iconst (v := 0) hx hb dX11_leansOn_116 (by decide) ?_
            exact x_rz hx hb hr (xnz (Or.inl rfl)) hlk hQ (Nat.le_of_ble_eq_true rfl) (Nat.le_of_ble_eq_true rfl) hS dX11_leansOn_117 () ⟨_, rfl, (Or.inl rfl)⟩ hh
          · refine lv_iconst (v := 1) hx hb dX11_leansOn_112 (by decide) ?_
            refine lv_goto (tgt := 117) hx hb dX11_leansOn_113 (by decide) ?_
            exact x_rz hx hb hr (xnz (Or.inr rfl)) hlk hQ (Nat.le_of_ble_eq_true rfl) (Nat.le_of_ble_eq_true rfl) hS dX11_leansOn_117 () ⟨_, rfl, (Or.inr rfl)⟩ hh
      · refine lv_iload hx hb dX11_leansOn_13 (lv_at hl 5 rfl) ?_
        have J90 : ∀ (x14 : Int32) (locs : List Loc) (ls : Array Slot), x14.toInt = 0 ∨ x14.toInt = 1 → TW E K F (tl, [z0, z1, z2, z3, z4, z5, z6, z7, z8, z9, z10, z11, z12, z13, z14, z15, z16, z17, z18, z19, z20], [ar0, ar1, ar2, ar3, ar4, ar5, ar6, ar7, ar8, ar9, ar10]) [] s.heap → va_S (xA E) s.heap s.heap locs → lv_has ls 7 [(0, .ref a), (1, .int p0), (2, .int p1), (3, .int p2), (4, .int p3), (6, .int x2)] → W p l e rm_X11_leansOn s m args below meth c s.heap locs 0 0 Q (F0 m 90 ls [.int x14]) := by
          intro x14 locs ls hf15 hT hS hl
          refine lv_istore (lv' := [(5, .int x14), (0, .ref a), (1, .int p0), (2, .int p1), (3, .int p2), (4, .int p3), (6, .int x2)]) hx hb dX11_leansOn_90 hl (by decide) rfl (fun ls hl => ?_)
          refine xi_iinc (n := 1) (lv' := fun z9 => [(6, .int z9), (5, .int x14), (0, .ref a), (1, .int p0), (2, .int p1), (3, .int p2), (4, .int p3)]) (k := 6) hx hb (rfl : Int32.toInt x2 = x2.toInt) (by decide) dX11_leansOn_92 hl rfl (by decide) (fun _ => rfl) (fun x16 ls t17 hl => ?_)
          have hl : lv_has ls 7 [(6, .int x16), (5, .int x14), (0, .ref a), (1, .int p0), (2, .int p1), (3, .int p2), (4, .int p3)] := hl
          refine lv_goto (tgt := 6) hx hb dX11_leansOn_95 (by decide) ?_
          exact ih7 x14 x16 _ _ (z_X11_leansOn_2 x14.toInt hf15 (xr x14)) (z_X11_leansOn_3 x16.toInt x2.toInt N3 hf5 hm6 c8 t17 (xr x16) (xr x2)) (z_X11_leansOn_4 x16.toInt x2.toInt N3 hf5 hm6 c8 t17 (xr x16) (xr x2)) hT.nil hS (lv_sub hl [2, 3, 4, 5, 6, 1, 0] rfl)
        have J85 : ∀ (locs : List Loc) (ls : Array Slot), TW E K F (tl, [z0, z1, z2, z3, z4, z5, z6, z7, z8, z9, z10, z11, z12, z13, z14, z15, z16, z17, z18, z19, z20], [ar0, ar1, ar2, ar3, ar4, ar5, ar6, ar7, ar8, ar9, ar10]) [] s.heap → va_S (xA E) s.heap s.heap locs → lv_has ls 7 [(0, .ref a), (1, .int p0), (2, .int p1), (3, .int p2), (4, .int p3), (6, .int x2)] → W p l e rm_X11_leansOn s m args below meth c s.heap locs 0 0 Q (F0 m 85 ls []) := by
          intro locs ls hT hS hl
          refine lv_iconst (v := 1) hx hb dX11_leansOn_85 (by decide) ?_
          refine lv_goto (tgt := 90) hx hb dX11_leansOn_86 (by decide) ?_
          exact J90 1 _ _ (by decide) hT.nil hS (lv_sub hl [0, 1, 2, 3, 4, 5] rfl)
        refine xi_zne (tgt := 85) hx hb (rfl : Int32.toInt x1 = x1.toInt) dX11_leansOn_15 (by decide) (fun c18 => ?_) (fun c18 => ?_)
        · exact J85 _ _ hT.nil hS (lv_sub hl [0, 1, 2, 3, 4, 6] rfl)
        · refine lv_aload_n hx hb dX11_leansOn_18 rfl (lv_at hl 0 rfl) ?_
          refine lv_iload hx hb dX11_leansOn_19 (lv_at hl 6 rfl) ?_
          refine x_clp (x_runV (b := a) (As := [.int x2]) (rest := []) S (c_X11_isRule l E K F tl z0 z1 z2 z3 z4 z5 z6 z7 z8 z9 z10 z11 z12 z13 z14 z15 z16 z17 z18 z19 z20 ar0 ar1 ar2 ar3 ar4 ar5 ar6 ar7 ar8 ar9 ar10 s.heap a x2 ha hR) mv_X11_isRule km_X11_162 rfl rfl ⟨Nat.le_of_ble_eq_true rfl, Nat.le_of_ble_eq_true rfl⟩ (rc_13 hK hT ha) hK (fun _ => XPh.blind) (fun U hU hW => XPh.at hK hz hS hT hU hW) rfl hl.1 (Nat.le_of_ble_eq_true rfl) dX11_leansOn_21 ⟨Nat.le_of_ble_eq_true rfl, Nat.le_of_ble_eq_true rfl⟩) hS ?_
          rintro _ _ locs ⟨x20, rfl, b21, t19⟩ hS
          have t19 : x20.toInt = 0 ∨ (x20.toInt = 1 ∧ 0 ≤ x2.toInt ∧ x2.toInt ≤ 11 ∧ 0 ≤ (aI ar1 (10 * x2.toInt + (0 : Int)))) := t19
          have J89 : ∀ (locs : List Loc) (ls : Array Slot), TW E K F (tl, [z0, z1, z2, z3, z4, z5, z6, z7, z8, z9, z10, z11, z12, z13, z14, z15, z16, z17, z18, z19, z20], [ar0, ar1, ar2, ar3, ar4, ar5, ar6, ar7, ar8, ar9, ar10]) [] s.heap → va_S (xA E) s.heap s.heap locs → lv_has ls 7 [(0, .ref a), (1, .int p0), (2, .int p1), (3, .int p2), (4, .int p3), (6, .int x2)] → W p l e rm_X11_leansOn s m args below meth c s.heap locs 0 0 Q (F0 m 89 ls []) := by
            intro locs ls hT hS hl
            refine lv_iconst (v := 0) hx hb dX11_leansOn_89 (by decide) ?_
            exact J90 0 _ _ (by decide) hT.nil hS (lv_sub hl [0, 1, 2, 3, 4, 5] rfl)
          refine xi_zeq (tgt := 89) hx hb (rfl : Int32.toInt x20 = x20.toInt) dX11_leansOn_24 (by decide) (fun c22 => ?_) (fun c22 => ?_)
          · exact J89 _ _ hT.nil hS (lv_sub hl [0, 1, 2, 3, 4, 6] rfl)
          · refine lv_aload_n hx hb dX11_leansOn_27 rfl (lv_at hl 0 rfl) ?_
            refine lv_iload hx hb dX11_leansOn_28 (lv_at hl 6 rfl) ?_
            refine lv_iconst (v := 0) hx hb dX11_leansOn_30 (by decide) ?_
            refine x_clp (x_runV (b := a) (As := [.int x2, .int 0]) (rest := []) S (c_X11_of l E K F tl z0 z1 z2 z3 z4 z5 z6 z7 z8 z9 z10 z11 z12 z13 z14 z15 z16 z17 z18 z19 z20 ar0 ar1 ar2 ar3 ar4 ar5 ar6 ar7 ar8 ar9 ar10 s.heap a x2 0 ha (z_X11_leansOn_5 x2.toInt x20.toInt N3 (aI ar1 (10 * x2.toInt + (0 : Int))) hf5 hm6 c8 t19 (xbz b21) c22 (xr x2) (xr x20)) (by decide)) mv_X11_of km_X11_165 rfl rfl ⟨Nat.le_of_ble_eq_true rfl, Nat.le_of_ble_eq_true rfl⟩ (rc_13 hK hT ha) hK (fun _ => XPh.blind) (fun U hU hW => XPh.at hK hz hS hT hU hW) rfl hl.1 (Nat.le_of_ble_eq_true rfl) dX11_leansOn_31 ⟨Nat.le_of_ble_eq_true rfl, Nat.le_of_ble_eq_true rfl⟩) hS ?_
            rintro _ _ locs ⟨x24, rfl, t23⟩ hS
            have t23 : x24.toInt = (aI ar1 (10 * x2.toInt + (0 : Int))) := t23
            have v26 : (-1 ≤ (aI ar1 (10 * x2.toInt + (0 : Int))) ∧ (aI ar1 (10 * x2.toInt + (0 : Int))) ≤ 5) ∧ (0 ≤ (aI ar1 (10 * x2.toInt + (1 : Int))) ∧ (aI ar1 (10 * x2.toInt + (1 : Int))) ≤ 2) ∧ (0 ≤ (aI ar1 (10 * x2.toInt + (2 : Int))) ∧ (aI ar1 (10 * x2.toInt + (2 : Int))) ≤ 2) ∧ (-1 ≤ (aI ar1 (10 * x2.toInt + (3 : Int))) ∧ (aI ar1 (10 * x2.toInt + (3 : Int))) ≤ 2) ∧ ((aI ar1 (10 * x2.toInt + (0 : Int))) = 1 ∨ (aI ar1 (10 * x2.toInt + (0 : Int))) = 3 ∨ (aI ar1 (10 * x2.toInt + (0 : Int))) = 4 → 0 ≤ (aI ar1 (10 * x2.toInt + (3 : Int)))) := RV.row hR (z_X11_leansOn_6 x2.toInt x20.toInt x24.toInt N3 (aI ar1 (10 * x2.toInt + (0 : Int))) hf5 hm6 c8 t19 (xbz b21) c22 t23 (xr x2) (xr x20) (xr x24))
            refine lv_iconst (v := 1) hx hb dX11_leansOn_34 (by decide) ?_
            refine xi_cne (tgt := 89) hx hb (rfl : Int32.toInt x24 = x24.toInt) ((by decide) : Int32.toInt 1 = (1 : Int)) dX11_leansOn_35 (by decide) (fun c27 => ?_) (fun c27 => ?_)
            · exact J89 _ _ hT.nil hS (lv_sub hl [0, 1, 2, 3, 4, 6] rfl)
            · refine lv_aload_n hx hb dX11_leansOn_38 rfl (lv_at hl 0 rfl) ?_
              refine lv_iload hx hb dX11_leansOn_39 (lv_at hl 6 rfl) ?_
              refine lv_iconst (v := 3) hx hb dX11_leansOn_41 (by decide) ?_
              refine x_clp (x_runV (b := a) (As := [.int x2, .int 3]) (rest := []) S (c_X11_of l E K F tl z0 z1 z2 z3 z4 z5 z6 z7 z8 z9 z10 z11 z12 z13 z14 z15 z16 z17 z18 z19 z20 ar0 ar1 ar2 ar3 ar4 ar5 ar6 ar7 ar8 ar9 ar10 s.heap a x2 3 ha (z_X11_leansOn_7 x2.toInt x20.toInt x24.toInt N3 (aI ar1 (10 * x2.toInt + (0 : Int))) (aI ar1 (10 * x2.toInt + (3 : Int))) hf5 hm6 c8 t19 (xbz b21) c22 t23 (v26).1 (v26).2.2.2.1 (v26).2.2.2.2 c27 (xr x2) (xr x20) (xr x24)) (by decide)) mv_X11_of km_X11_165 rfl rfl ⟨Nat.le_of_ble_eq_true rfl, Nat.le_of_ble_eq_true rfl⟩ (rc_13 hK hT ha) hK (fun _ => XPh.blind) (fun U hU hW => XPh.at hK hz hS hT hU hW) rfl hl.1 (Nat.le_of_ble_eq_true rfl) dX11_leansOn_42 ⟨Nat.le_of_ble_eq_true rfl, Nat.le_of_ble_eq_true rfl⟩) hS ?_
              rintro _ _ locs ⟨x29, rfl, t28⟩ hS
              have t28 : x29.toInt = (aI ar1 (10 * x2.toInt + (3 : Int))) := t28
              refine lv_iload_n hx hb dX11_leansOn_45 rfl (lv_at hl 3 rfl) ?_
              refine xi_cne (tgt := 89) hx hb (rfl : Int32.toInt x29 = x29.toInt) (rfl : Int32.toInt p2 = p2.toInt) dX11_leansOn_46 (by decide) (fun c31 => ?_) (fun c31 => ?_)
              · exact J89 _ _ hT.nil hS (lv_sub hl [0, 1, 2, 3, 4, 6] rfl)
              · refine lv_aload_n hx hb dX11_leansOn_49 rfl (lv_at hl 0 rfl) ?_
                refine lv_iload hx hb dX11_leansOn_50 (lv_at hl 6 rfl) ?_
                refine lv_iconst (v := 1) hx hb dX11_leansOn_52 (by decide) ?_
                refine x_clp (x_runV (b := a) (As := [.int x2, .int 1]) (rest := []) S (c_X11_of l E K F tl z0 z1 z2 z3 z4 z5 z6 z7 z8 z9 z10 z11 z12 z13 z14 z15 z16 z17 z18 z19 z20 ar0 ar1 ar2 ar3 ar4 ar5 ar6 ar7 ar8 ar9 ar10 s.heap a x2 1 ha (z_X11_leansOn_8 p2.toInt x2.toInt x20.toInt x24.toInt x29.toInt N3 (aI ar1 (10 * x2.toInt + (0 : Int))) (aI ar1 (10 * x2.toInt + (3 : Int))) hf5 hm6 c8 t19 (xbz b21) c22 t23 (v26).1 (v26).2.2.2.1 (v26).2.2.2.2 c27 t28 c31 (xr p2) (xr x2) (xr x20) (xr x24) (xr x29)) (by decide)) mv_X11_of km_X11_165 rfl rfl ⟨Nat.le_of_ble_eq_true rfl, Nat.le_of_ble_eq_true rfl⟩ (rc_13 hK hT ha) hK (fun _ => XPh.blind) (fun U hU hW => XPh.at hK hz hS hT hU hW) rfl hl.1 (Nat.le_of_ble_eq_true rfl) dX11_leansOn_53 ⟨Nat.le_of_ble_eq_true rfl, Nat.le_of_ble_eq_true rfl⟩) hS ?_
                rintro _ _ locs ⟨x33, rfl, t32⟩ hS
                have t32 : x33.toInt = (aI ar1 (10 * x2.toInt + (1 : Int))) := t32
                refine lv_iload_n hx hb dX11_leansOn_56 rfl (lv_at hl 1 rfl) ?_
                refine xi_cne (tgt := 89) hx hb (rfl : Int32.toInt x33 = x33.toInt) (rfl : Int32.toInt p0 = p0.toInt) dX11_leansOn_57 (by decide) (fun c35 => ?_) (fun c35 => ?_)
                · exact J89 _ _ hT.nil hS (lv_sub hl [0, 1, 2, 3, 4, 6] rfl)
                · refine lv_aload_n hx hb dX11_leansOn_60 rfl (lv_at hl 0 rfl) ?_
                  refine gX11_1 S hK hT ha kf_X11_9 dX11_leansOn_61 (fun hk36 => ?_)
                  refine lv_iload_n hx hb dX11_leansOn_64 rfl (lv_at hl 1 rfl) ?_
                  refine lv_iload_n hx hb dX11_leansOn_65 rfl (lv_at hl 2 rfl) ?_
                  refine x_clp (x_runS (As := [.int p0, .int p1]) (rest := [.ref (F a 1)]) S (c_X11_at l E K F tl z0 z1 z2 z3 z4 z5 z6 z7 z8 z9 z10 z11 z12 z13 z14 z15 z16 z17 z18 z19 z20 ar0 ar1 ar2 ar3 ar4 ar5 ar6 ar7 ar8 ar9 ar10 s.heap p0 p1) ms_X11_at km_X11_156 rfl rfl ⟨Nat.le_of_ble_eq_true rfl, Nat.le_of_ble_eq_true rfl⟩ hK (fun _ => XPh.blind) (fun U hU hW => XPh.at hK hz hS hT hU hW) rfl hl.1 (Nat.le_of_ble_eq_true rfl) dX11_leansOn_66 ⟨Nat.le_of_ble_eq_true rfl, Nat.le_of_ble_eq_true rfl⟩) hS ?_
                  rintro _ _ locs ⟨x38, rfl, t37⟩ hS
                  have t37 : 0 ≤ p0.toInt ∧ p0.toInt ≤ 2 ∧ 0 ≤ p1.toInt ∧ p1.toInt ≤ 29 → x38.toInt = 4 * (30 * p0.toInt + p1.toInt) := t37
                  refine lv_iconst (v := 1) hx hb dX11_leansOn_69 (by decide) ?_
                  refine xi_iadd hx hb (rfl : Int32.toInt x38 = x38.toInt) ((by decide) : Int32.toInt 1 = (1 : Int)) dX11_leansOn_70 (fun x40 t41 => ?_)
                  refine lv_aload_n hx hb dX11_leansOn_71 rfl (lv_at hl 0 rfl) ?_
                  refine lv_iload hx hb dX11_leansOn_72 (lv_at hl 6 rfl) ?_
                  refine lv_iconst (v := 2) hx hb dX11_leansOn_74 (by decide) ?_
                  refine x_clp (x_runV (b := a) (As := [.int x2, .int 2]) (rest := [.int x40, .ref (F a 1)]) S (c_X11_of l E K F tl z0 z1 z2 z3 z4 z5 z6 z7 z8 z9 z10 z11 z12 z13 z14 z15 z16 z17 z18 z19 z20 ar0 ar1 ar2 ar3 ar4 ar5 ar6 ar7 ar8 ar9 ar10 s.heap a x2 2 ha (z_X11_leansOn_9 p2.toInt x2.toInt x20.toInt x24.toInt x29.toInt N3 (aI ar1 (10 * x2.toInt + (0 : Int))) (aI ar1 (10 * x2.toInt + (3 : Int))) hf5 hm6 c8 t19 (xbz b21) c22 t23 (v26).1 (v26).2.2.2.1 (v26).2.2.2.2 c27 t28 c31 (xr p2) (xr x2) (xr x20) (xr x24) (xr x29)) (by decide)) mv_X11_of km_X11_165 rfl rfl ⟨Nat.le_of_ble_eq_true rfl, Nat.le_of_ble_eq_true rfl⟩ (rc_13 hK hT ha) hK (fun _ => XPh.blind) (fun U hU hW => XPh.at hK hz hS hT hU hW) rfl hl.1 (Nat.le_of_ble_eq_true rfl) dX11_leansOn_75 ⟨Nat.le_of_ble_eq_true rfl, Nat.le_of_ble_eq_true rfl⟩) hS ?_
                  rintro _ _ locs ⟨x43, rfl, t42⟩ hS
                  have t42 : x43.toInt = (aI ar1 (10 * x2.toInt + (2 : Int))) := t42
                  refine xi_iadd hx hb (rfl : Int32.toInt x40 = x40.toInt) (rfl : Int32.toInt x43 = x43.toInt) dX11_leansOn_78 (fun x45 t46 => ?_)
                  refine tld_0 S hK hT hk36 (at_30 (f := ar0) rfl) (by decide) (z_X11_leansOn_10 p0.toInt p1.toInt x33.toInt x38.toInt x40.toInt x43.toInt x45.toInt (aI ar1 (10 * x2.toInt + (1 : Int))) (aI ar1 (10 * x2.toInt + (2 : Int))) e0 e1 (v26).2.1 (v26).2.2.1 t32 c35 t37 t41 t42 t46 (xr p0) (xr p1) (xr x33) (xr x38) (xr x40) (xr x43) (xr x45)) dX11_leansOn_79 (fun x47 w48 o49 => ?_)
                  refine lv_iload hx hb dX11_leansOn_80 (lv_at hl 4 rfl) ?_
                  refine xi_cne (tgt := 89) hx hb (rfl : Int32.toInt x47 = x47.toInt) (rfl : Int32.toInt p3 = p3.toInt) dX11_leansOn_82 (by decide) (fun c51 => ?_) (fun c51 => ?_)
                  · exact J89 _ _ hT.nil hS (lv_sub hl [0, 1, 2, 3, 4, 6] rfl)
                  · exact J85 _ _ hT.nil hS (lv_sub hl [0, 1, 2, 3, 4, 6] rfl)
  exact L6 4294967297 0 0 _ _ (by decide) (by decide) (by decide) hT.nil hS (lv_sub hl [2, 3, 4, 5, 6, 1, 0] rfl)

theorem z_X11_least_1 (a0 : Int) (h0 : (-99 : Int) ≤ a0) (r0 : -2147483648 ≤ a0 ∧ a0 < 2147483648) : ¬ (2147483648 - a0 < ((0 : Nat) : Int)) := by omega
theorem z_X11_least_2 (a0 : Int) (a1 : Int) (a2 : Int) (a3 : Int) (a4 : Int) (a5 : Int) (a6 : Int) (a7 : Int) (a8 : Int) (h0 : a6 = 0 ∨ (a6 = 1 ∧ 0 ≤ a0 ∧ a0 ≤ 2 ∧ 0 ≤ a1 ∧ a1 ≤ 29 ∧ a8 = 1)) (h1 : a6 = 0 ∨ a6 = 1) (h2 : ¬ (a6 = 0)) (h3 : (a7 = 1 ∧ 0 ≤ a2 ∧ a2 ≤ 2) ∨ (a7 = 0 ∧ (a2 < 0 ∨ 2 < a2))) (h4 : a7 = 0 ∨ a7 = 1) (h5 : a7 ≠ 0) (h6 : 0 ≤ a0 ∧ a0 ≤ 2 ∧ 0 ≤ a1 ∧ a1 ≤ 29 → a3 = 4 * (30 * a0 + a1)) (h7 : a4 = a3 + (1 : Int) ∨ a3 + (1 : Int) < -2147483648 ∨ 2147483648 ≤ a3 + (1 : Int)) (h8 : a5 = a4 + a2 ∨ a4 + a2 < -2147483648 ∨ 2147483648 ≤ a4 + a2) (r0 : -2147483648 ≤ a0 ∧ a0 < 2147483648) (r1 : -2147483648 ≤ a1 ∧ a1 < 2147483648) (r2 : -2147483648 ≤ a2 ∧ a2 < 2147483648) (r3 : -2147483648 ≤ a3 ∧ a3 < 2147483648) (r4 : -2147483648 ≤ a4 ∧ a4 < 2147483648) (r5 : -2147483648 ≤ a5 ∧ a5 < 2147483648) (r6 : -2147483648 ≤ a6 ∧ a6 < 2147483648) (r7 : -2147483648 ≤ a7 ∧ a7 < 2147483648) : 0 ≤ a5 ∧ a5 < ((360 : Nat) : Int) := by first | (clear h0 h1 h2 h3 h4 h5 h6 h7; omega) | (clear h0 h1 h2 h4 h5 h6; omega) | (clear h0 h1 h2; omega) | (clear h1 h2; omega) | omega
theorem z_X11_least_3 (a0 : Int) (a1 : Int) (a2 : Int) (a3 : Int) (a4 : Int) (a5 : Int) (a6 : Int) (a7 : Int) (a8 : Int) (h0 : a6 = 0 ∨ (a6 = 1 ∧ 0 ≤ a0 ∧ a0 ≤ 2 ∧ 0 ≤ a1 ∧ a1 ≤ 29 ∧ a8 = 1)) (h1 : a6 = 0 ∨ a6 = 1) (h2 : ¬ (a6 = 0)) (h3 : (a7 = 1 ∧ 0 ≤ a2 ∧ a2 ≤ 2) ∨ (a7 = 0 ∧ (a2 < 0 ∨ 2 < a2))) (h4 : a7 = 0 ∨ a7 = 1) (h5 : a7 ≠ 0) (h6 : 0 ≤ a0 ∧ a0 ≤ 2 ∧ 0 ≤ a1 ∧ a1 ≤ 29 → a3 = 4 * (30 * a0 + a1)) (h7 : a4 = a3 + (1 : Int) ∨ a3 + (1 : Int) < -2147483648 ∨ 2147483648 ≤ a3 + (1 : Int)) (h8 : a5 = a4 + a2 ∨ a4 + a2 < -2147483648 ∨ 2147483648 ≤ a4 + a2) (r0 : -2147483648 ≤ a0 ∧ a0 < 2147483648) (r1 : -2147483648 ≤ a1 ∧ a1 < 2147483648) (r2 : -2147483648 ≤ a2 ∧ a2 < 2147483648) (r3 : -2147483648 ≤ a3 ∧ a3 < 2147483648) (r4 : -2147483648 ≤ a4 ∧ a4 < 2147483648) (r5 : -2147483648 ≤ a5 ∧ a5 < 2147483648) (r6 : -2147483648 ≤ a6 ∧ a6 < 2147483648) (r7 : -2147483648 ≤ a7 ∧ a7 < 2147483648) : 0 ≤ a5 ∧ a5 < ((360 : Nat) : Int) := by first | (clear h0 h1 h2 h3 h4 h5 h6 h7; omega) | (clear h0 h1 h2 h4 h5 h6; omega) | (clear h0 h1 h2; omega) | (clear h1 h2; omega) | omega
theorem z_X11_least_4 (a0 : Int) (a1 : Int) (a2 : Int) (a3 : Int) (a4 : Int) (a5 : Int) (a6 : Int) (a7 : Int) (a8 : Int) (h0 : a6 = 0 ∨ (a6 = 1 ∧ 0 ≤ a0 ∧ a0 ≤ 2 ∧ 0 ≤ a1 ∧ a1 ≤ 29 ∧ a8 = 1)) (h1 : a6 = 0 ∨ a6 = 1) (h2 : ¬ (a6 = 0)) (h3 : (a7 = 1 ∧ 0 ≤ a2 ∧ a2 ≤ 2) ∨ (a7 = 0 ∧ (a2 < 0 ∨ 2 < a2))) (h4 : a7 = 0 ∨ a7 = 1) (h5 : a7 ≠ 0) (h6 : 0 ≤ a0 ∧ a0 ≤ 2 ∧ 0 ≤ a1 ∧ a1 ≤ 29 → a3 = 4 * (30 * a0 + a1)) (h7 : a4 = a3 + (1 : Int) ∨ a3 + (1 : Int) < -2147483648 ∨ 2147483648 ≤ a3 + (1 : Int)) (h8 : a5 = a4 + a2 ∨ a4 + a2 < -2147483648 ∨ 2147483648 ≤ a4 + a2) (r0 : -2147483648 ≤ a0 ∧ a0 < 2147483648) (r1 : -2147483648 ≤ a1 ∧ a1 < 2147483648) (r2 : -2147483648 ≤ a2 ∧ a2 < 2147483648) (r3 : -2147483648 ≤ a3 ∧ a3 < 2147483648) (r4 : -2147483648 ≤ a4 ∧ a4 < 2147483648) (r5 : -2147483648 ≤ a5 ∧ a5 < 2147483648) (r6 : -2147483648 ≤ a6 ∧ a6 < 2147483648) (r7 : -2147483648 ≤ a7 ∧ a7 < 2147483648) : 0 ≤ a5 ∧ a5 < ((360 : Nat) : Int) := by first | (clear h0 h1 h2 h3 h4 h5 h6 h7; omega) | (clear h0 h1 h2 h4 h5 h6; omega) | (clear h0 h1 h2; omega) | (clear h1 h2; omega) | omega
theorem z_X11_least_5 (a0 : Int) (a1 : Int) (a2 : Nat) (h0 : (-99 : Int) ≤ a0) (h1 : 2147483648 - a0 < ((a2 + 1 : Nat) : Int)) (h2 : ¬ ((99 : Int) < a0)) (h3 : a1 = a0 + 1 ∨ a0 + 1 < -2147483648 ∨ 2147483648 ≤ a0 + 1) (r0 : -2147483648 ≤ a0 ∧ a0 < 2147483648) (r1 : -2147483648 ≤ a1 ∧ a1 < 2147483648) : (-99 : Int) ≤ a1 := by omega
theorem z_X11_least_6 (a0 : Int) (a1 : Int) (a2 : Nat) (h0 : (-99 : Int) ≤ a0) (h1 : 2147483648 - a0 < ((a2 + 1 : Nat) : Int)) (h2 : ¬ ((99 : Int) < a0)) (h3 : a1 = a0 + 1 ∨ a0 + 1 < -2147483648 ∨ 2147483648 ≤ a0 + 1) (r0 : -2147483648 ≤ a0 ∧ a0 < 2147483648) (r1 : -2147483648 ≤ a1 ∧ a1 < 2147483648) : 2147483648 - a1 < ((a2 : Nat) : Int) := by omega
theorem z_X11_least_7 (a0 : Int) (a1 : Int) (a2 : Int) (a3 : Int) (a4 : Int) (a5 : Int) (a6 : Int) (a7 : Int) (a8 : Int) (h0 : a6 = 0 ∨ (a6 = 1 ∧ 0 ≤ a0 ∧ a0 ≤ 2 ∧ 0 ≤ a1 ∧ a1 ≤ 29 ∧ a8 = 1)) (h1 : a6 = 0 ∨ a6 = 1) (h2 : ¬ (a6 = 0)) (h3 : (a7 = 1 ∧ 0 ≤ a2 ∧ a2 ≤ 2) ∨ (a7 = 0 ∧ (a2 < 0 ∨ 2 < a2))) (h4 : a7 = 0 ∨ a7 = 1) (h5 : a7 ≠ 0) (h6 : 0 ≤ a0 ∧ a0 ≤ 2 ∧ 0 ≤ a1 ∧ a1 ≤ 29 → a3 = 4 * (30 * a0 + a1)) (h7 : a4 = a3 + (1 : Int) ∨ a3 + (1 : Int) < -2147483648 ∨ 2147483648 ≤ a3 + (1 : Int)) (h8 : a5 = a4 + a2 ∨ a4 + a2 < -2147483648 ∨ 2147483648 ≤ a4 + a2) (r0 : -2147483648 ≤ a0 ∧ a0 < 2147483648) (r1 : -2147483648 ≤ a1 ∧ a1 < 2147483648) (r2 : -2147483648 ≤ a2 ∧ a2 < 2147483648) (r3 : -2147483648 ≤ a3 ∧ a3 < 2147483648) (r4 : -2147483648 ≤ a4 ∧ a4 < 2147483648) (r5 : -2147483648 ≤ a5 ∧ a5 < 2147483648) (r6 : -2147483648 ≤ a6 ∧ a6 < 2147483648) (r7 : -2147483648 ≤ a7 ∧ a7 < 2147483648) : 0 ≤ a5 ∧ a5 < ((360 : Nat) : Int) := by first | (clear h0 h1 h2 h3 h4 h5 h6 h7; omega) | (clear h0 h1 h2 h4 h5 h6; omega) | (clear h0 h1 h2; omega) | (clear h1 h2; omega) | omega
abbrev rm_X11_least : Room := { frames := 6, cells := 0, slots := 0, locals := 146 }
set_option maxHeartbeats 4000000 in
set_option maxRecDepth 100000 in
theorem c_X11_least (l : Launch) (E : XE) (K : Nat → Nat) (F : Nat → Nat → Nat) (tl z0 z1 z2 z3 z4 z5 z6 z7 z8 z9 z10 z11 z12 z13 z14 z15 z16 z17 z18 z19 z20 : Int32) (ar0 ar1 ar2 ar3 ar4 ar5 ar6 ar7 ar8 ar9 ar10 : Nat → Int32) (a : Nat) (p0 : Int32) (p1 : Int32) (p2 : Int32) (ha : K a = 13) (hR : RV ar1) : Met l yX11_least (xw yX11_least cX11_least 7 (some .int)) rm_X11_least (va_Pc [.ref a, .int p0, .int p1, .int p2] (XP E K F (tl, [z0, z1, z2, z3, z4, z5, z6, z7, z8, z9, z10, z11, z12, z13, z14, z15, z16, z17, z18, z19, z20], [ar0, ar1, ar2, ar3, ar4, ar5, ar6, ar7, ar8, ar9, ar10]))) (XQ E (fun v (u : Int32 × Int32 × Int32 × (Nat → Int32) × (Nat → Int32) × (Nat → Int32) × (Nat → Int32)) => ∃ r : Int32, v = .int r) (fun u H => TW E K F (tl, [u.1, z1, z2, u.2.1, u.2.2.1, z5, z6, z7, z8, z9, z10, z11, z12, z13, z14, z15, z16, z17, z18, z19, z20], [u.2.2.2.1, ar1, u.2.2.2.2.1, u.2.2.2.2.2.1, u.2.2.2.2.2.2, ar5, ar6, ar7, ar8, ar9, ar10]) [] H)) 0 0 (xA E) := by
  refine x_enter (by decide) (Nat.le_of_ble_eq_true rfl) ?_
  intro p e s m args below meth c Q S hr hlk hnm hQ hP ls hl
  obtain ⟨hz, hK, hT⟩ := hP
  obtain ⟨hx, hb, -, -, -⟩ := id S
  obtain ⟨H, hT, hS, hgo⟩ : ∃ H : Heap, TW E K F (tl, [z0, z1, z2, z3, z4, z5, z6, z7, z8, z9, z10, z11, z12, z13, z14, z15, z16, z17, z18, z19, z20], [ar0, ar1, ar2, ar3, ar4, ar5, ar6, ar7, ar8, ar9, ar10]) [] H ∧ va_S (xA E) s.heap H [] ∧ H = s.heap := ⟨_, hT, va_S.rf, rfl⟩
  rw [← hgo]
  have hl : lv_has ls 7 [(0, .ref a), (1, .int p0), (2, .int p1), (3, .int p2)] := hl
  refine lv_aload_n hx hb dX11_least_0 rfl (lv_at hl 0 rfl) ?_
  refine lv_iconst (v := 0) hx hb dX11_least_1 (by decide) ?_
  refine pX11_0 (kq := []) (v := 0) S hK hT hS ha kf_X11_134 (Nat.le_of_ble_eq_true rfl) dX11_least_2 (fun _ h => by cases h) (fun H locs hT hS => ?_)
  have hT : TW E K F (tl, [0, z1, z2, z3, z4, z5, z6, z7, z8, z9, z10, z11, z12, z13, z14, z15, z16, z17, z18, z19, z20], [ar0, ar1, ar2, ar3, ar4, ar5, ar6, ar7, ar8, ar9, ar10]) [] H := hT
  refine lv_aload_n hx hb dX11_least_5 rfl (lv_at hl 0 rfl) ?_
  refine lv_iload_n hx hb dX11_least_6 rfl (lv_at hl 1 rfl) ?_
  refine lv_iload_n hx hb dX11_least_7 rfl (lv_at hl 2 rfl) ?_
  refine x_clp (x_runV (b := a) (As := [.int p0, .int p1]) (rest := []) S (c_X11_isRow l E K F tl 0 z1 z2 z3 z4 z5 z6 z7 z8 z9 z10 z11 z12 z13 z14 z15 z16 z17 z18 z19 z20 ar0 ar1 ar2 ar3 ar4 ar5 ar6 ar7 ar8 ar9 ar10 H a p0 p1 ha) mv_X11_isRow km_X11_346 rfl rfl ⟨Nat.le_of_ble_eq_true rfl, Nat.le_of_ble_eq_true rfl⟩ (rc_13 hK hT ha) hK (fun _ => XPh.blind) (fun U hU hW => XPh.at hK hz hS hT hU hW) rfl hl.1 (Nat.le_of_ble_eq_true rfl) dX11_least_8 ⟨Nat.le_of_ble_eq_true rfl, Nat.le_of_ble_eq_true rfl⟩) hS ?_
  rintro _ _ locs ⟨x2, rfl, b3, t1⟩ hS
  have t1 : x2.toInt = 0 ∨ (x2.toInt = 1 ∧ 0 ≤ p0.toInt ∧ p0.toInt ≤ 2 ∧ 0 ≤ p1.toInt ∧ p1.toInt ≤ 29 ∧ (aI ar0 (4 * (30 * p0.toInt + p1.toInt))) = 1) := t1
  refine xi_zeq (tgt := 21) hx hb (rfl : Int32.toInt x2 = x2.toInt) dX11_least_11 (by decide) (fun c4 => ?_) (fun c4 => ?_)
  · refine lv_ldc (v := (-2147483648)) hx hb S.2.2.2.1 (S.2.2.2.2 _ (List.mem_cons_of_mem _ kc_X11_57)) dX11_least_21 ?_
    exact x_ri hx hb hr hlk hQ (Nat.le_of_ble_eq_true rfl) (Nat.le_of_ble_eq_true rfl) hS dX11_least_23 (0, z3, z4, ar0, ar2, ar3, ar4) ⟨_, rfl⟩ hT.nil
  · refine lv_iload_n hx hb dX11_least_14 rfl (lv_at hl 3 rfl) ?_
    refine x_clp (x_runS (As := [.int p2]) (rest := []) S (c_X11_isColumn l E K F tl 0 z1 z2 z3 z4 z5 z6 z7 z8 z9 z10 z11 z12 z13 z14 z15 z16 z17 z18 z19 z20 ar0 ar1 ar2 ar3 ar4 ar5 ar6 ar7 ar8 ar9 ar10 H p2) ms_X11_isColumn km_X11_356 rfl rfl ⟨Nat.le_of_ble_eq_true rfl, Nat.le_of_ble_eq_true rfl⟩ hK (fun _ => XPh.blind) (fun U hU hW => XPh.at hK hz hS hT hU hW) rfl hl.1 (Nat.le_of_ble_eq_true rfl) dX11_least_15 ⟨Nat.le_of_ble_eq_true rfl, Nat.le_of_ble_eq_true rfl⟩) hS ?_
    rintro _ _ locs ⟨x6, rfl, b7, t5⟩ hS
    have t5 : (x6.toInt = 1 ∧ 0 ≤ p2.toInt ∧ p2.toInt ≤ 2) ∨ (x6.toInt = 0 ∧ (p2.toInt < 0 ∨ 2 < p2.toInt)) := t5
    refine xi_zne (tgt := 24) hx hb (rfl : Int32.toInt x6 = x6.toInt) dX11_least_18 (by decide) (fun c8 => ?_) (fun c8 => ?_)
    · refine lv_aload_n hx hb dX11_least_24 rfl (lv_at hl 0 rfl) ?_
      refine x_cv0 (x_runV (b := a) (As := []) (rest := []) S (c_X11_start l E K F tl 0 z1 z2 z3 z4 z5 z6 z7 z8 z9 z10 z11 z12 z13 z14 z15 z16 z17 z18 z19 z20 ar0 ar1 ar2 ar3 ar4 ar5 ar6 ar7 ar8 ar9 ar10 a ha hR) mv_X11_start km_X11_350 rfl rfl ⟨Nat.le_of_ble_eq_true rfl, Nat.le_of_ble_eq_true rfl⟩ (rc_13 hK hT ha) hK (fun _ => XP.blind) (fun U hU hW => XP.at hK hz hS hT hU hW) rfl hl.1 (Nat.le_of_ble_eq_true rfl) dX11_least_25 ⟨Nat.le_of_ble_eq_true rfl, Nat.le_of_ble_eq_true rfl⟩) hS ?_
      rintro _ H locs - hT hS
      refine lv_iload_n hx hb dX11_least_28 rfl (lv_at hl 1 rfl) ?_
      refine lv_iload_n hx hb dX11_least_29 rfl (lv_at hl 2 rfl) ?_
      refine x_clp (x_runS (As := [.int p0, .int p1]) (rest := []) S (c_X11_at l E K F tl 0 z1 z2 z3 z4 z5 z6 z7 z8 z9 z10 z11 z12 z13 z14 z15 z16 z17 z18 z19 z20 ar0 ar1 ar2 ar3 ar4 ar5 ar6 ar7 ar8 ar9 ar10 H p0 p1) ms_X11_at km_X11_156 rfl rfl ⟨Nat.le_of_ble_eq_true rfl, Nat.le_of_ble_eq_true rfl⟩ hK (fun _ => XPh.blind) (fun U hU hW => XPh.at hK hz hS hT hU hW) rfl hl.1 (Nat.le_of_ble_eq_true rfl) dX11_least_30 ⟨Nat.le_of_ble_eq_true rfl, Nat.le_of_ble_eq_true rfl⟩) hS ?_
      rintro _ _ locs ⟨x12, rfl, t11⟩ hS
      have t11 : 0 ≤ p0.toInt ∧ p0.toInt ≤ 2 ∧ 0 ≤ p1.toInt ∧ p1.toInt ≤ 29 → x12.toInt = 4 * (30 * p0.toInt + p1.toInt) := t11
      refine lv_iconst (v := 1) hx hb dX11_least_33 (by decide) ?_
      refine xi_iadd hx hb (rfl : Int32.toInt x12 = x12.toInt) ((by decide) : Int32.toInt 1 = (1 : Int)) dX11_least_34 (fun x14 t15 => ?_)
      refine lv_iload_n hx hb dX11_least_35 rfl (lv_at hl 3 rfl) ?_
      refine xi_iadd hx hb (rfl : Int32.toInt x14 = x14.toInt) (rfl : Int32.toInt p2 = p2.toInt) dX11_least_36 (fun x16 t17 => ?_)
      refine lv_istore (lv' := [(4, .int x16), (0, .ref a), (1, .int p0), (2, .int p1), (3, .int p2)]) hx hb dX11_least_37 hl (by decide) rfl (fun ls hl => ?_)
      refine lv_ldc (v := (-2147483648)) hx hb S.2.2.2.1 (S.2.2.2.2 _ (List.mem_cons_of_mem _ kc_X11_57)) dX11_least_39 ?_
      refine lv_istore (lv' := [(5, .int (-2147483648)), (4, .int x16), (0, .ref a), (1, .int p0), (2, .int p1), (3, .int p2)]) hx hb dX11_least_41 hl (by decide) rfl (fun ls hl => ?_)
      refine lv_bipush (v := (-99)) hx hb dX11_least_43 (by decide) ?_
      refine lv_istore (lv' := [(6, .int (-99)), (5, .int (-2147483648)), (4, .int x16), (0, .ref a), (1, .int p0), (2, .int p1), (3, .int p2)]) hx hb dX11_least_45 hl (by decide) rfl (fun ls hl => ?_)
      have L47 : ∀ (N26 : Nat) (x18 : Int32) (x19 : Int32) (x20 : Int32) (x21 : Int32) (f22 : Nat → Int32) (f23 : Nat → Int32) (f24 : Nat → Int32) (f25 : Nat → Int32) (H : Heap) (locs : List Loc) (ls : Array Slot), (-99 : Int) ≤ x19.toInt → 2147483648 - x19.toInt < ((N26 : Nat) : Int) → TW E K F (tl, [0, z1, z2, x20, x21, z5, z6, z7, z8, z9, z10, z11, z12, z13, z14, z15, z16, z17, z18, z19, z20], [f22, ar1, f23, f24, f25, ar5, ar6, ar7, ar8, ar9, ar10]) [] H → va_S (xA E) s.heap H locs → lv_has ls 7 [(0, .ref a), (4, .int x16), (5, .int x18), (6, .int x19)] → W p l e rm_X11_least s m args below meth c H locs 0 0 Q (F0 m 47 ls []) := by
        intro N26
        induction N26 with
        | zero =>
          intro x18 x19 x20 x21 f22 f23 f24 f25 H locs ls hf27 hm28
          exact absurd hm28 (z_X11_least_1 x19.toInt hf27 (xr x19))
        | succ N26 ih29 =>
          intro x18 x19 x20 x21 f22 f23 f24 f25 H locs ls hf27 hm28 hT hS hl
          refine lv_iload hx hb dX11_least_47 (lv_at hl 3 rfl) ?_
          refine lv_bipush (v := 99) hx hb dX11_least_49 (by decide) ?_
          have J119 : ∀ (H : Heap) (locs : List Loc) (ls : Array Slot), TW E K F (tl, [0, z1, z2, x20, x21, z5, z6, z7, z8, z9, z10, z11, z12, z13, z14, z15, z16, z17, z18, z19, z20], [f22, ar1, f23, f24, f25, ar5, ar6, ar7, ar8, ar9, ar10]) [] H → va_S (xA E) s.heap H locs → lv_has ls 7 [(0, .ref a), (4, .int x16), (5, .int x18)] → W p l e rm_X11_least s m args below meth c H locs 0 0 Q (F0 m 119 ls []) := by
            intro H locs ls hT hS hl
            refine lv_aload_n hx hb dX11_least_119 rfl (lv_at hl 0 rfl) ?_
            refine gX11_1 S hK hT ha kf_X11_9 dX11_least_120 (fun hk30 => ?_)
            refine lv_iload hx hb dX11_least_123 (lv_at hl 1 rfl) ?_
            refine lv_aload_n hx hb dX11_least_125 rfl (lv_at hl 0 rfl) ?_
            refine gX11_4 S hK hT ha kf_X11_21 dX11_least_126 (fun hk31 => ?_)
            refine lv_iload hx hb dX11_least_129 (lv_at hl 1 rfl) ?_
            refine al_0 S hK hT hk31 ar_31 (by decide) (z_X11_least_2 p0.toInt p1.toInt p2.toInt x12.toInt x14.toInt x16.toInt x2.toInt x6.toInt (aI ar0 (4 * (30 * p0.toInt + p1.toInt))) t1 (xbz b3) c4 t5 (xbz b7) c8 t11 t15 t17 (xr p0) (xr p1) (xr p2) (xr x12) (xr x14) (xr x16) (xr x2) (xr x6)) dX11_least_131 (fun x32 o33 => ?_)
            refine tst_0 S hK hT hS hk30 (at_30 (f := f22) rfl) (fun _ => bt_30 (Nat.le_of_ble_eq_true rfl)) (by decide) (by decide) xti_30 (z_X11_least_3 p0.toInt p1.toInt p2.toInt x12.toInt x14.toInt x16.toInt x2.toInt x6.toInt (aI ar0 (4 * (30 * p0.toInt + p1.toInt))) t1 (xbz b3) c4 t5 (xbz b7) c8 t11 t15 t17 (xr p0) (xr p1) (xr p2) (xr x12) (xr x14) (xr x16) (xr x2) (xr x6)) dX11_least_132 (fun f34 H locs hu35 hT hS => ?_)
            have hT : TW E K F (tl, [0, z1, z2, x20, x21, z5, z6, z7, z8, z9, z10, z11, z12, z13, z14, z15, z16, z17, z18, z19, z20], [f34, ar1, f23, f24, f25, ar5, ar6, ar7, ar8, ar9, ar10]) [] H := hT
            refine lv_iload hx hb dX11_least_133 (lv_at hl 2 rfl) ?_
            exact x_ri hx hb hr hlk hQ (Nat.le_of_ble_eq_true rfl) (Nat.le_of_ble_eq_true rfl) hS dX11_least_135 (0, x20, x21, f34, f23, f24, f25) ⟨_, rfl⟩ hT.nil
          refine xi_cgt (tgt := 119) hx hb (rfl : Int32.toInt x19 = x19.toInt) ((by decide) : Int32.toInt 99 = (99 : Int)) dX11_least_51 (by decide) (fun c36 => ?_) (fun c36 => ?_)
          · exact J119 _ _ _ hT.nil hS (lv_sub hl [0, 1, 2] rfl)
          · refine lv_iload hx hb dX11_least_54 (lv_at hl 2 rfl) ?_
            refine lv_ldc (v := (-2147483648)) hx hb S.2.2.2.1 (S.2.2.2.2 _ (List.mem_cons_of_mem _ kc_X11_57)) dX11_least_56 ?_
            refine xi_cne (tgt := 119) hx hb (rfl : Int32.toInt x18 = x18.toInt) ((by decide) : Int32.toInt (-2147483648) = (-2147483648 : Int)) dX11_least_58 (by decide) (fun c37 => ?_) (fun c37 => ?_)
            · exact J119 _ _ _ hT.nil hS (lv_sub hl [0, 1, 2] rfl)
            · refine lv_iload hx hb dX11_least_61 (lv_at hl 3 rfl) ?_
              refine lv_aload_n hx hb dX11_least_63 rfl (lv_at hl 0 rfl) ?_
              refine gX11_4 S hK hT ha kf_X11_21 dX11_least_64 (fun hk38 => ?_)
              refine lv_iload hx hb dX11_least_67 (lv_at hl 1 rfl) ?_
              refine al_0 S hK hT hk38 ar_31 (by decide) (z_X11_least_4 p0.toInt p1.toInt p2.toInt x12.toInt x14.toInt x16.toInt x2.toInt x6.toInt (aI ar0 (4 * (30 * p0.toInt + p1.toInt))) t1 (xbz b3) c4 t5 (xbz b7) c8 t11 t15 t17 (xr p0) (xr p1) (xr p2) (xr x12) (xr x14) (xr x16) (xr x2) (xr x6)) dX11_least_69 (fun x39 o40 => ?_)
              have J113 : ∀ (x41 : Int32) (x42 : Int32) (x43 : Int32) (f44 : Nat → Int32) (f45 : Nat → Int32) (f46 : Nat → Int32) (f47 : Nat → Int32) (H : Heap) (locs : List Loc) (ls : Array Slot), TW E K F (tl, [0, z1, z2, x42, x43, z5, z6, z7, z8, z9, z10, z11, z12, z13, z14, z15, z16, z17, z18, z19, z20], [f44, ar1, f45, f46, f47, ar5, ar6, ar7, ar8, ar9, ar10]) [] H → va_S (xA E) s.heap H locs → lv_has ls 7 [(0, .ref a), (4, .int x16), (5, .int x41), (6, .int x19)] → W p l e rm_X11_least s m args below meth c H locs 0 0 Q (F0 m 113 ls []) := by
                intro x41 x42 x43 f44 f45 f46 f47 H locs ls hT hS hl
                refine xi_iinc (n := 1) (lv' := fun z9 => [(6, .int z9), (0, .ref a), (4, .int x16), (5, .int x41)]) (k := 3) hx hb (rfl : Int32.toInt x19 = x19.toInt) (by decide) dX11_least_113 hl rfl (by decide) (fun _ => rfl) (fun x48 ls t49 hl => ?_)
                have hl : lv_has ls 7 [(6, .int x48), (0, .ref a), (4, .int x16), (5, .int x41)] := hl
                refine lv_goto (tgt := 47) hx hb dX11_least_116 (by decide) ?_
                exact ih29 x41 x48 x42 x43 f44 f45 f46 f47 _ _ _ (z_X11_least_5 x19.toInt x48.toInt N26 hf27 hm28 c36 t49 (xr x19) (xr x48)) (z_X11_least_6 x19.toInt x48.toInt N26 hf27 hm28 c36 t49 (xr x19) (xr x48)) hT.nil hS (lv_sub hl [1, 2, 3, 0] rfl)
              refine xi_ceq (tgt := 113) hx hb (rfl : Int32.toInt x19 = x19.toInt) (rfl : Int32.toInt x39 = x39.toInt) dX11_least_70 (by decide) (fun c50 => ?_) (fun c50 => ?_)
              · exact J113 x18 x20 x21 f22 f23 f24 f25 _ _ _ hT.nil hS (lv_sub hl [0, 1, 2, 3] rfl)
              · refine lv_aload_n hx hb dX11_least_73 rfl (lv_at hl 0 rfl) ?_
                refine gX11_1 S hK hT ha kf_X11_9 dX11_least_74 (fun hk51 => ?_)
                refine lv_iload hx hb dX11_least_77 (lv_at hl 1 rfl) ?_
                refine lv_iload hx hb dX11_least_79 (lv_at hl 3 rfl) ?_
                refine tst_0 S hK hT hS hk51 (at_30 (f := f22) rfl) (fun _ => bt_30 (Nat.le_of_ble_eq_true rfl)) (by decide) (by decide) xti_30 (z_X11_least_7 p0.toInt p1.toInt p2.toInt x12.toInt x14.toInt x16.toInt x2.toInt x6.toInt (aI ar0 (4 * (30 * p0.toInt + p1.toInt))) t1 (xbz b3) c4 t5 (xbz b7) c8 t11 t15 t17 (xr p0) (xr p1) (xr p2) (xr x12) (xr x14) (xr x16) (xr x2) (xr x6)) dX11_least_81 (fun f52 H locs hu53 hT hS => ?_)
                have hT : TW E K F (tl, [0, z1, z2, x20, x21, z5, z6, z7, z8, z9, z10, z11, z12, z13, z14, z15, z16, z17, z18, z19, z20], [f52, ar1, f23, f24, f25, ar5, ar6, ar7, ar8, ar9, ar10]) [] H := hT
                refine lv_aload_n hx hb dX11_least_82 rfl (lv_at hl 0 rfl) ?_
                refine lv_aload_n hx hb dX11_least_83 rfl (lv_at hl 0 rfl) ?_
                refine gX11_11 S hK hT ha kf_X11_36 dX11_least_84 (fun hk54 => ?_)
                refine lv_aload_n hx hb dX11_least_87 rfl (lv_at hl 0 rfl) ?_
                refine gX11_1 S hK hT ha kf_X11_9 dX11_least_88 (fun hk55 => ?_)
                refine lv_iconst (v := 0) hx hb dX11_least_91 (by decide) ?_
                refine x_cv0 (x_runV (b := a) (As := [.ref (F a 11), .ref (F a 1), .int 0]) (rest := []) S (c_X11_layStates l E K F tl 0 z1 z2 x20 x21 z5 z6 z7 z8 z9 z10 z11 z12 z13 z14 z15 z16 z17 z18 z19 z20 f52 ar1 f23 f24 f25 ar5 ar6 ar7 ar8 ar9 ar10 a (F a 11) (F a 1) 0 ha hk54 (XO.a hk55 (by decide)) hR) mv_X11_layStates km_X11_210 rfl rfl ⟨Nat.le_of_ble_eq_true rfl, Nat.le_of_ble_eq_true rfl⟩ (rc_13 hK hT ha) hK (fun _ => XP.blind) (fun U hU hW => XP.at hK hz hS hT hU hW) rfl hl.1 (Nat.le_of_ble_eq_true rfl) dX11_least_92 ⟨Nat.le_of_ble_eq_true rfl, Nat.le_of_ble_eq_true rfl⟩) hS ?_
                rintro _ H locs - hT hS
                refine lv_aload_n hx hb dX11_least_95 rfl (lv_at hl 0 rfl) ?_
                refine lv_iconst (v := 2) hx hb dX11_least_96 (by decide) ?_
                refine x_cl0 (x_runV (b := a) (As := [.int 2]) (rest := []) S (c_X11_asks l E K F tl 0 z1 z2 x20 x21 z5 z6 z7 z8 z9 z10 z11 z12 z13 z14 z15 z16 z17 z18 z19 z20 f52 ar1 f23 f24 f25 ar5 ar6 ar7 ar8 ar9 ar10 a 2 ha hR) mv_X11_asks km_X11_319 rfl rfl ⟨Nat.le_of_ble_eq_true rfl, Nat.le_of_ble_eq_true rfl⟩ (rc_13 hK hT ha) hK (fun _ => XP.blind) (fun U hU hW => XP.at hK hz hS hT hU hW) rfl hl.1 (Nat.le_of_ble_eq_true rfl) dX11_least_97 ⟨Nat.le_of_ble_eq_true rfl, Nat.le_of_ble_eq_true rfl⟩) hS ?_
                rintro _ ⟨u58, u59, f60, f61, f62⟩ H locs ⟨x64, rfl, t63⟩ hT hS
                have hT : TW E K F (tl, [0, z1, z2, u58, u59, z5, z6, z7, z8, z9, z10, z11, z12, z13, z14, z15, z16, z17, z18, z19, z20], [f52, ar1, f60, f61, f62, ar5, ar6, ar7, ar8, ar9, ar10]) [] H := hT
                have t63 : 0 ≤ u59.toInt ∧ u59.toInt ≤ 2388 ∧ u59.toInt ≤ (((fV ar1 f61 f62) : Nat) : Int) ∧ (x64.toInt = -1 ∨ (0 ≤ x64.toInt ∧ x64.toInt < u59.toInt)) := t63
                refine lv_iconst (v := (-1)) hx hb dX11_least_100 (by decide) ?_
                have J111 : ∀ (x66 : Int32) (H : Heap) (locs : List Loc) (ls : Array Slot), TW E K F (tl, [0, z1, z2, u58, u59, z5, z6, z7, z8, z9, z10, z11, z12, z13, z14, z15, z16, z17, z18, z19, z20], [f52, ar1, f60, f61, f62, ar5, ar6, ar7, ar8, ar9, ar10]) [] H → va_S (xA E) s.heap H locs → lv_has ls 7 [(0, .ref a), (4, .int x16), (6, .int x19)] → W p l e rm_X11_least s m args below meth c H locs 0 0 Q (F0 m 111 ls [.int x66]) := by
                  intro x66 H locs ls hT hS hl
                  refine lv_istore (lv' := [(5, .int x66), (0, .ref a), (4, .int x16), (6, .int x19)]) hx hb dX11_least_111 hl (by decide) rfl (fun ls hl => ?_)
                  exact J113 x66 u58 u59 f52 f60 f61 f62 _ _ _ hT.nil hS (lv_sub hl [1, 2, 0, 3] rfl)
                refine xi_cne (tgt := 109) hx hb (rfl : Int32.toInt x64 = x64.toInt) ((by decide) : Int32.toInt (-1) = (-1 : Int)) dX11_least_101 (by decide) (fun c67 => ?_) (fun c67 => ?_)
                · refine lv_ldc (v := (-2147483648)) hx hb S.2.2.2.1 (S.2.2.2.2 _ (List.mem_cons_of_mem _ kc_X11_57)) dX11_least_109 ?_
                  exact J111 (-2147483648) _ _ _ hT.nil hS (lv_sub hl [0, 1, 3] rfl)
                · refine lv_iload hx hb dX11_least_104 (lv_at hl 3 rfl) ?_
                  refine lv_goto (tgt := 111) hx hb dX11_least_106 (by decide) ?_
                  exact J111 x19 _ _ _ hT.nil hS (lv_sub hl [0, 1, 3] rfl)
      exact L47 4294967297 (-2147483648) (-99) z3 z4 ar0 ar2 ar3 ar4 _ _ _ (by decide) (by decide) hT.nil hS (lv_sub hl [3, 2, 1, 0] rfl)
    · refine lv_ldc (v := (-2147483648)) hx hb S.2.2.2.1 (S.2.2.2.2 _ (List.mem_cons_of_mem _ kc_X11_57)) dX11_least_21 ?_
      exact x_ri hx hb hr hlk hQ (Nat.le_of_ble_eq_true rfl) (Nat.le_of_ble_eq_true rfl) hS dX11_least_23 (0, z3, z4, ar0, ar2, ar3, ar4) ⟨_, rfl⟩ hT.nil

theorem z_X11_depth_1 (a0 : Int) (a1 : Int) (a2 : Int) (h0 : a1 = 0 ∨ (a1 = 1 ∧ 0 ≤ a0 ∧ a0 ≤ 11 ∧ 0 ≤ a2)) (h1 : a1 = 0 ∨ a1 = 1) (h2 : ¬ (a1 = 0)) (r0 : -2147483648 ≤ a0 ∧ a0 < 2147483648) (r1 : -2147483648 ≤ a1 ∧ a1 < 2147483648) : 0 ≤ a0 ∧ a0 ≤ 11 := by first | (clear h1 h2; omega) | omega
theorem z_X11_depth_2 (a0 : Int) (a1 : Int) (a2 : Int) (a3 : Int) (h0 : a1 = 0 ∨ (a1 = 1 ∧ 0 ≤ a0 ∧ a0 ≤ 11 ∧ 0 ≤ a3)) (h1 : a1 = 0 ∨ a1 = 1) (h2 : ¬ (a1 = 0)) (h3 : a2 = a3) (r0 : -2147483648 ≤ a0 ∧ a0 < 2147483648) (r1 : -2147483648 ≤ a1 ∧ a1 < 2147483648) (r2 : -2147483648 ≤ a2 ∧ a2 < 2147483648) : 0 ≤ a0 ∧ a0 ≤ 11 := by first | (clear h1 h2; omega) | omega
theorem z_X11_depth_3 (a0 : Int) (a1 : Int) (a2 : Int) (a3 : Int) (a4 : Int) (h0 : a1 = 0 ∨ (a1 = 1 ∧ 0 ≤ a0 ∧ a0 ≤ 11 ∧ 0 ≤ a3)) (h1 : a1 = 0 ∨ a1 = 1) (h2 : ¬ (a1 = 0)) (h3 : a2 = a3) (h4 : -1 ≤ a3 ∧ a3 ≤ 5) (h5 : -1 ≤ a4 ∧ a4 ≤ 2) (h6 : a3 = 1 ∨ a3 = 3 ∨ a3 = 4 → 0 ≤ a4) (h7 : ¬ (a2 ≠ (5 : Int))) (r0 : -2147483648 ≤ a0 ∧ a0 < 2147483648) (r1 : -2147483648 ≤ a1 ∧ a1 < 2147483648) (r2 : -2147483648 ≤ a2 ∧ a2 < 2147483648) : 0 ≤ a0 ∧ a0 ≤ 11 := by first | (clear h1 h2 h6 h7; omega) | (clear h7; omega) | omega
theorem z_X11_depth_4 (a0 : Int) (h0 : (0 : Int) ≤ a0) (r0 : -2147483648 ≤ a0 ∧ a0 < 2147483648) : ¬ (2147483648 - a0 < ((0 : Nat) : Int)) := by omega
theorem z_X11_depth_5 (a0 : Int) (a1 : Int) (a2 : Int) (a3 : Int) (a4 : Int) (h0 : a1 = 0 ∨ (a1 = 1 ∧ 0 ≤ a0 ∧ a0 ≤ 11 ∧ 0 ≤ a3)) (h1 : a1 = 0 ∨ a1 = 1) (h2 : ¬ (a1 = 0)) (h3 : a2 = a3) (h4 : -1 ≤ a3 ∧ a3 ≤ 5) (h5 : -1 ≤ a4 ∧ a4 ≤ 2) (h6 : a3 = 1 ∨ a3 = 3 ∨ a3 = 4 → 0 ≤ a4) (h7 : ¬ (a2 ≠ (5 : Int))) (r0 : -2147483648 ≤ a0 ∧ a0 < 2147483648) (r1 : -2147483648 ≤ a1 ∧ a1 < 2147483648) (r2 : -2147483648 ≤ a2 ∧ a2 < 2147483648) : 0 ≤ a0 ∧ a0 ≤ 11 := by first | (clear h1 h2 h6 h7; omega) | (clear h7; omega) | omega
theorem z_X11_depth_6 (a0 : Int) (a1 : Int) (a2 : Int) (a3 : Int) (a4 : Int) (h0 : a1 = 0 ∨ (a1 = 1 ∧ 0 ≤ a0 ∧ a0 ≤ 11 ∧ 0 ≤ a3)) (h1 : a1 = 0 ∨ a1 = 1) (h2 : ¬ (a1 = 0)) (h3 : a2 = a3) (h4 : -1 ≤ a3 ∧ a3 ≤ 5) (h5 : -1 ≤ a4 ∧ a4 ≤ 2) (h6 : a3 = 1 ∨ a3 = 3 ∨ a3 = 4 → 0 ≤ a4) (h7 : ¬ (a2 ≠ (5 : Int))) (r0 : -2147483648 ≤ a0 ∧ a0 < 2147483648) (r1 : -2147483648 ≤ a1 ∧ a1 < 2147483648) (r2 : -2147483648 ≤ a2 ∧ a2 < 2147483648) : 0 ≤ a0 ∧ a0 ≤ 11 := by first | (clear h1 h2 h6 h7; omega) | (clear h7; omega) | omega
theorem z_X11_depth_7 (a0 : Int) (a1 : Int) (a2 : Int) (a3 : Int) (a4 : Int) (a5 : Int) (a6 : Int) (a7 : Int) (a8 : Int) (a9 : Int) (a10 : Int) (a11 : Int) (h0 : 0 ≤ a10 ∧ a10 ≤ 2) (h1 : 0 ≤ a11 ∧ a11 ≤ 2) (h2 : a1 = a10) (h3 : a2 = 0 ∨ (a2 = 1 ∧ 0 ≤ a1 ∧ a1 ≤ 2 ∧ 0 ≤ a0 ∧ a0 ≤ 29 ∧ a9 = 1)) (h4 : a2 = 0 ∨ a2 = 1) (h5 : a2 ≠ 0) (h6 : 0 ≤ a3 ∧ a3 ≤ 29) (h7 : a4 = a10) (h8 : 0 ≤ a4 ∧ a4 ≤ 2 ∧ 0 ≤ a3 ∧ a3 ≤ 29 → a5 = 4 * (30 * a4 + a3)) (h9 : a6 = a5 + (1 : Int) ∨ a5 + (1 : Int) < -2147483648 ∨ 2147483648 ≤ a5 + (1 : Int)) (h10 : a7 = a11) (h11 : a8 = a6 + a7 ∨ a6 + a7 < -2147483648 ∨ 2147483648 ≤ a6 + a7) (r0 : -2147483648 ≤ a0 ∧ a0 < 2147483648) (r1 : -2147483648 ≤ a1 ∧ a1 < 2147483648) (r2 : -2147483648 ≤ a2 ∧ a2 < 2147483648) (r3 : -2147483648 ≤ a3 ∧ a3 < 2147483648) (r4 : -2147483648 ≤ a4 ∧ a4 < 2147483648) (r5 : -2147483648 ≤ a5 ∧ a5 < 2147483648) (r6 : -2147483648 ≤ a6 ∧ a6 < 2147483648) (r7 : -2147483648 ≤ a7 ∧ a7 < 2147483648) (r8 : -2147483648 ≤ a8 ∧ a8 < 2147483648) : 0 ≤ a8 ∧ a8 < ((360 : Nat) : Int) := by first | (clear h3 h4 h5 h8 h9; omega) | (clear h3 h4 h5 h8; omega) | (clear h3 h4 h5; omega) | omega
theorem z_X11_depth_8 (a0 : Int) (a1 : Int) (a2 : Int) (a3 : Int) (a4 : Int) (h0 : a1 = 0 ∨ (a1 = 1 ∧ 0 ≤ a0 ∧ a0 ≤ 11 ∧ 0 ≤ a3)) (h1 : a1 = 0 ∨ a1 = 1) (h2 : ¬ (a1 = 0)) (h3 : a2 = a3) (h4 : -1 ≤ a3 ∧ a3 ≤ 5) (h5 : -1 ≤ a4 ∧ a4 ≤ 2) (h6 : a3 = 1 ∨ a3 = 3 ∨ a3 = 4 → 0 ≤ a4) (h7 : ¬ (a2 ≠ (5 : Int))) (r0 : -2147483648 ≤ a0 ∧ a0 < 2147483648) (r1 : -2147483648 ≤ a1 ∧ a1 < 2147483648) (r2 : -2147483648 ≤ a2 ∧ a2 < 2147483648) : 0 ≤ a0 ∧ a0 ≤ 11 := by first | (clear h1 h2 h6 h7; omega) | (clear h7; omega) | omega
theorem z_X11_depth_9 (a0 : Int) (a1 : Int) (a2 : Int) (a3 : Int) (a4 : Int) (a5 : Int) (a6 : Int) (a7 : Int) (a8 : Int) (a9 : Int) (a10 : Int) (a11 : Int) (a12 : Int) (a13 : Int) (a14 : Int) (a15 : Int) (a16 : Int) (h0 : 0 ≤ a15 ∧ a15 ≤ 2) (h1 : 0 ≤ a16 ∧ a16 ≤ 2) (h2 : a1 = a15) (h3 : a2 = 0 ∨ (a2 = 1 ∧ 0 ≤ a1 ∧ a1 ≤ 2 ∧ 0 ≤ a0 ∧ a0 ≤ 29 ∧ a12 = 1)) (h4 : a2 = 0 ∨ a2 = 1) (h5 : a2 ≠ 0) (h6 : 0 ≤ a3 ∧ a3 ≤ 29) (h7 : a4 = a15) (h8 : 0 ≤ a4 ∧ a4 ≤ 2 ∧ 0 ≤ a3 ∧ a3 ≤ 29 → a5 = 4 * (30 * a4 + a3)) (h9 : a6 = a5 + (1 : Int) ∨ a5 + (1 : Int) < -2147483648 ∨ 2147483648 ≤ a5 + (1 : Int)) (h10 : a7 = a16) (h11 : a8 = a6 + a7 ∨ a6 + a7 < -2147483648 ∨ 2147483648 ≤ a6 + a7) (h12 : a9 = a14) (h13 : a10 = a15) (h14 : a11 = 0 ∨ (a11 = 1 ∧ 0 ≤ a10 ∧ a10 ≤ 2 ∧ 0 ≤ a9 ∧ a9 ≤ 29 ∧ a13 = 1)) (h15 : a11 = 0 ∨ a11 = 1) (h16 : a11 ≠ 0) (r0 : -2147483648 ≤ a0 ∧ a0 < 2147483648) (r1 : -2147483648 ≤ a1 ∧ a1 < 2147483648) (r2 : -2147483648 ≤ a2 ∧ a2 < 2147483648) (r3 : -2147483648 ≤ a3 ∧ a3 < 2147483648) (r4 : -2147483648 ≤ a4 ∧ a4 < 2147483648) (r5 : -2147483648 ≤ a5 ∧ a5 < 2147483648) (r6 : -2147483648 ≤ a6 ∧ a6 < 2147483648) (r7 : -2147483648 ≤ a7 ∧ a7 < 2147483648) (r8 : -2147483648 ≤ a8 ∧ a8 < 2147483648) (r9 : -2147483648 ≤ a9 ∧ a9 < 2147483648) (r10 : -2147483648 ≤ a10 ∧ a10 < 2147483648) (r11 : -2147483648 ≤ a11 ∧ a11 < 2147483648) : 0 ≤ a9 ∧ a9 ≤ 29 := by first | (clear h3 h4 h5 h8 h9 h11 h15 h16; omega) | (clear h3 h4 h5 h8 h9 h11; omega) | omega
theorem z_X11_depth_10 (a0 : Int) (a1 : Int) (a2 : Nat) (h0 : (0 : Int) ≤ a0) (h1 : 2147483648 - a0 < ((a2 + 1 : Nat) : Int)) (h2 : ¬ ((30 : Int) < a0)) (h3 : a1 = a0 + 1 ∨ a0 + 1 < -2147483648 ∨ 2147483648 ≤ a0 + 1) (r0 : -2147483648 ≤ a0 ∧ a0 < 2147483648) (r1 : -2147483648 ≤ a1 ∧ a1 < 2147483648) : (0 : Int) ≤ a1 := by omega
theorem z_X11_depth_11 (a0 : Int) (a1 : Int) (a2 : Nat) (h0 : (0 : Int) ≤ a0) (h1 : 2147483648 - a0 < ((a2 + 1 : Nat) : Int)) (h2 : ¬ ((30 : Int) < a0)) (h3 : a1 = a0 + 1 ∨ a0 + 1 < -2147483648 ∨ 2147483648 ≤ a0 + 1) (r0 : -2147483648 ≤ a0 ∧ a0 < 2147483648) (r1 : -2147483648 ≤ a1 ∧ a1 < 2147483648) : 2147483648 - a1 < ((a2 : Nat) : Int) := by omega
theorem z_X11_depth_12 (a0 : Int) (a1 : Int) (a2 : Int) (a3 : Int) (a4 : Int) (h0 : 0 ≤ a4 ∧ a4 ≤ 2) (h1 : a1 = a4) (h2 : a2 = 0 ∨ (a2 = 1 ∧ 0 ≤ a1 ∧ a1 ≤ 2 ∧ 0 ≤ a0 ∧ a0 ≤ 29 ∧ a3 = 1)) (h3 : a2 = 0 ∨ a2 = 1) (h4 : a2 ≠ 0) (r0 : -2147483648 ≤ a0 ∧ a0 < 2147483648) (r1 : -2147483648 ≤ a1 ∧ a1 < 2147483648) (r2 : -2147483648 ≤ a2 ∧ a2 < 2147483648) : 0 ≤ a0 ∧ a0 ≤ 29 := by first | (clear h3 h4; omega) | omega
abbrev rm_X11_depth : Room := { frames := 3, cells := 0, slots := 0, locals := 67 }
set_option maxHeartbeats 4000000 in
set_option maxRecDepth 100000 in
theorem c_X11_depth (l : Launch) (E : XE) (K : Nat → Nat) (F : Nat → Nat → Nat) (tl z0 z1 z2 z3 z4 z5 z6 z7 z8 z9 z10 z11 z12 z13 z14 z15 z16 z17 z18 z19 z20 : Int32) (ar0 ar1 ar2 ar3 ar4 ar5 ar6 ar7 ar8 ar9 ar10 : Nat → Int32) (a : Nat) (p0 : Int32) (p1 : Int32) (ha : K a = 13) (hR : RV ar1) : Met l yX11_depth (xw yX11_depth cX11_depth 6 (some .int)) rm_X11_depth (va_Pc [.ref a, .int p0, .int p1] (XP E K F (tl, [z0, z1, z2, z3, z4, z5, z6, z7, z8, z9, z10, z11, z12, z13, z14, z15, z16, z17, z18, z19, z20], [ar0, ar1, ar2, ar3, ar4, ar5, ar6, ar7, ar8, ar9, ar10]))) (XQ E (fun v (u : Int32) => ∃ r : Int32, v = .int r) (fun u H => TW E K F (tl, [u, z1, z2, z3, z4, z5, z6, z7, z8, z9, z10, z11, z12, z13, z14, z15, z16, z17, z18, z19, z20], [ar0, ar1, ar2, ar3, ar4, ar5, ar6, ar7, ar8, ar9, ar10]) [] H)) 0 0 (xA E) := by
  refine x_enter (by decide) (Nat.le_of_ble_eq_true rfl) ?_
  intro p e s m args below meth c Q S hr hlk hnm hQ hP ls hl
  obtain ⟨hz, hK, hT⟩ := hP
  obtain ⟨hx, hb, -, -, -⟩ := id S
  obtain ⟨H, hT, hS, hgo⟩ : ∃ H : Heap, TW E K F (tl, [z0, z1, z2, z3, z4, z5, z6, z7, z8, z9, z10, z11, z12, z13, z14, z15, z16, z17, z18, z19, z20], [ar0, ar1, ar2, ar3, ar4, ar5, ar6, ar7, ar8, ar9, ar10]) [] H ∧ va_S (xA E) s.heap H [] ∧ H = s.heap := ⟨_, hT, va_S.rf, rfl⟩
  rw [← hgo]
  have hl : lv_has ls 6 [(0, .ref a), (1, .int p0), (2, .int p1)] := hl
  refine lv_aload_n hx hb dX11_depth_0 rfl (lv_at hl 0 rfl) ?_
  refine lv_iconst (v := 0) hx hb dX11_depth_1 (by decide) ?_
  refine pX11_0 (kq := []) (v := 0) S hK hT hS ha kf_X11_134 (Nat.le_of_ble_eq_true rfl) dX11_depth_2 (fun _ h => by cases h) (fun H locs hT hS => ?_)
  have hT : TW E K F (tl, [0, z1, z2, z3, z4, z5, z6, z7, z8, z9, z10, z11, z12, z13, z14, z15, z16, z17, z18, z19, z20], [ar0, ar1, ar2, ar3, ar4, ar5, ar6, ar7, ar8, ar9, ar10]) [] H := hT
  refine lv_aload_n hx hb dX11_depth_5 rfl (lv_at hl 0 rfl) ?_
  refine lv_iload_n hx hb dX11_depth_6 rfl (lv_at hl 1 rfl) ?_
  refine x_clp (x_runV (b := a) (As := [.int p0]) (rest := []) S (c_X11_isRule l E K F tl 0 z1 z2 z3 z4 z5 z6 z7 z8 z9 z10 z11 z12 z13 z14 z15 z16 z17 z18 z19 z20 ar0 ar1 ar2 ar3 ar4 ar5 ar6 ar7 ar8 ar9 ar10 H a p0 ha hR) mv_X11_isRule km_X11_162 rfl rfl ⟨Nat.le_of_ble_eq_true rfl, Nat.le_of_ble_eq_true rfl⟩ (rc_13 hK hT ha) hK (fun _ => XPh.blind) (fun U hU hW => XPh.at hK hz hS hT hU hW) rfl hl.1 (Nat.le_of_ble_eq_true rfl) dX11_depth_7 ⟨Nat.le_of_ble_eq_true rfl, Nat.le_of_ble_eq_true rfl⟩) hS ?_
  rintro _ _ locs ⟨x2, rfl, b3, t1⟩ hS
  have t1 : x2.toInt = 0 ∨ (x2.toInt = 1 ∧ 0 ≤ p0.toInt ∧ p0.toInt ≤ 11 ∧ 0 ≤ (aI ar1 (10 * p0.toInt + (0 : Int)))) := t1
  refine xi_zeq (tgt := 37) hx hb (rfl : Int32.toInt x2 = x2.toInt) dX11_depth_10 (by decide) (fun c4 => ?_) (fun c4 => ?_)
  · refine lv_iconst (v := (-1)) hx hb dX11_depth_37 (by decide) ?_
    exact x_ri hx hb hr hlk hQ (Nat.le_of_ble_eq_true rfl) (Nat.le_of_ble_eq_true rfl) hS dX11_depth_38 (0) ⟨_, rfl⟩ hT.nil
  · refine lv_aload_n hx hb dX11_depth_13 rfl (lv_at hl 0 rfl) ?_
    refine lv_iload_n hx hb dX11_depth_14 rfl (lv_at hl 1 rfl) ?_
    refine lv_iconst (v := 0) hx hb dX11_depth_15 (by decide) ?_
    refine x_clp (x_runV (b := a) (As := [.int p0, .int 0]) (rest := []) S (c_X11_of l E K F tl 0 z1 z2 z3 z4 z5 z6 z7 z8 z9 z10 z11 z12 z13 z14 z15 z16 z17 z18 z19 z20 ar0 ar1 ar2 ar3 ar4 ar5 ar6 ar7 ar8 ar9 ar10 H a p0 0 ha (z_X11_depth_1 p0.toInt x2.toInt (aI ar1 (10 * p0.toInt + (0 : Int))) t1 (xbz b3) c4 (xr p0) (xr x2)) (by decide)) mv_X11_of km_X11_165 rfl rfl ⟨Nat.le_of_ble_eq_true rfl, Nat.le_of_ble_eq_true rfl⟩ (rc_13 hK hT ha) hK (fun _ => XPh.blind) (fun U hU hW => XPh.at hK hz hS hT hU hW) rfl hl.1 (Nat.le_of_ble_eq_true rfl) dX11_depth_16 ⟨Nat.le_of_ble_eq_true rfl, Nat.le_of_ble_eq_true rfl⟩) hS ?_
    rintro _ _ locs ⟨x6, rfl, t5⟩ hS
    have t5 : x6.toInt = (aI ar1 (10 * p0.toInt + (0 : Int))) := t5
    have v8 : (-1 ≤ (aI ar1 (10 * p0.toInt + (0 : Int))) ∧ (aI ar1 (10 * p0.toInt + (0 : Int))) ≤ 5) ∧ (0 ≤ (aI ar1 (10 * p0.toInt + (1 : Int))) ∧ (aI ar1 (10 * p0.toInt + (1 : Int))) ≤ 2) ∧ (0 ≤ (aI ar1 (10 * p0.toInt + (2 : Int))) ∧ (aI ar1 (10 * p0.toInt + (2 : Int))) ≤ 2) ∧ (-1 ≤ (aI ar1 (10 * p0.toInt + (3 : Int))) ∧ (aI ar1 (10 * p0.toInt + (3 : Int))) ≤ 2) ∧ ((aI ar1 (10 * p0.toInt + (0 : Int))) = 1 ∨ (aI ar1 (10 * p0.toInt + (0 : Int))) = 3 ∨ (aI ar1 (10 * p0.toInt + (0 : Int))) = 4 → 0 ≤ (aI ar1 (10 * p0.toInt + (3 : Int)))) := RV.row hR (z_X11_depth_2 p0.toInt x2.toInt x6.toInt (aI ar1 (10 * p0.toInt + (0 : Int))) t1 (xbz b3) c4 t5 (xr p0) (xr x2) (xr x6))
    refine lv_iconst (v := 5) hx hb dX11_depth_19 (by decide) ?_
    refine xi_cne (tgt := 37) hx hb (rfl : Int32.toInt x6 = x6.toInt) ((by decide) : Int32.toInt 5 = (5 : Int)) dX11_depth_20 (by decide) (fun c9 => ?_) (fun c9 => ?_)
    · refine lv_iconst (v := (-1)) hx hb dX11_depth_37 (by decide) ?_
      exact x_ri hx hb hr hlk hQ (Nat.le_of_ble_eq_true rfl) (Nat.le_of_ble_eq_true rfl) hS dX11_depth_38 (0) ⟨_, rfl⟩ hT.nil
    · refine lv_aload_n hx hb dX11_depth_23 rfl (lv_at hl 0 rfl) ?_
      refine lv_aload_n hx hb dX11_depth_24 rfl (lv_at hl 0 rfl) ?_
      refine lv_iload_n hx hb dX11_depth_25 rfl (lv_at hl 1 rfl) ?_
      refine lv_iconst (v := 1) hx hb dX11_depth_26 (by decide) ?_
      refine x_clp (x_runV (b := a) (As := [.int p0, .int 1]) (rest := [.ref a]) S (c_X11_of l E K F tl 0 z1 z2 z3 z4 z5 z6 z7 z8 z9 z10 z11 z12 z13 z14 z15 z16 z17 z18 z19 z20 ar0 ar1 ar2 ar3 ar4 ar5 ar6 ar7 ar8 ar9 ar10 H a p0 1 ha (z_X11_depth_3 p0.toInt x2.toInt x6.toInt (aI ar1 (10 * p0.toInt + (0 : Int))) (aI ar1 (10 * p0.toInt + (3 : Int))) t1 (xbz b3) c4 t5 (v8).1 (v8).2.2.2.1 (v8).2.2.2.2 c9 (xr p0) (xr x2) (xr x6)) (by decide)) mv_X11_of km_X11_165 rfl rfl ⟨Nat.le_of_ble_eq_true rfl, Nat.le_of_ble_eq_true rfl⟩ (rc_13 hK hT ha) hK (fun _ => XPh.blind) (fun U hU hW => XPh.at hK hz hS hT hU hW) rfl hl.1 (Nat.le_of_ble_eq_true rfl) dX11_depth_27 ⟨Nat.le_of_ble_eq_true rfl, Nat.le_of_ble_eq_true rfl⟩) hS ?_
      rintro _ _ locs ⟨x11, rfl, t10⟩ hS
      have t10 : x11.toInt = (aI ar1 (10 * p0.toInt + (1 : Int))) := t10
      refine lv_iload_n hx hb dX11_depth_30 rfl (lv_at hl 2 rfl) ?_
      refine x_clp (x_runV (b := a) (As := [.int x11, .int p1]) (rest := []) S (c_X11_isRow l E K F tl 0 z1 z2 z3 z4 z5 z6 z7 z8 z9 z10 z11 z12 z13 z14 z15 z16 z17 z18 z19 z20 ar0 ar1 ar2 ar3 ar4 ar5 ar6 ar7 ar8 ar9 ar10 H a x11 p1 ha) mv_X11_isRow km_X11_346 rfl rfl ⟨Nat.le_of_ble_eq_true rfl, Nat.le_of_ble_eq_true rfl⟩ (rc_13 hK hT ha) hK (fun _ => XPh.blind) (fun U hU hW => XPh.at hK hz hS hT hU hW) rfl hl.1 (Nat.le_of_ble_eq_true rfl) dX11_depth_31 ⟨Nat.le_of_ble_eq_true rfl, Nat.le_of_ble_eq_true rfl⟩) hS ?_
      rintro _ _ locs ⟨x14, rfl, b15, t13⟩ hS
      have t13 : x14.toInt = 0 ∨ (x14.toInt = 1 ∧ 0 ≤ x11.toInt ∧ x11.toInt ≤ 2 ∧ 0 ≤ p1.toInt ∧ p1.toInt ≤ 29 ∧ (aI ar0 (4 * (30 * x11.toInt + p1.toInt))) = 1) := t13
      refine xi_zne (tgt := 39) hx hb (rfl : Int32.toInt x14 = x14.toInt) dX11_depth_34 (by decide) (fun c16 => ?_) (fun c16 => ?_)
      · refine lv_iconst (v := 0) hx hb dX11_depth_39 (by decide) ?_
        refine lv_istore_n (lv' := [(3, .int 0), (0, .ref a), (1, .int p0), (2, .int p1)]) hx hb dX11_depth_40 rfl hl (by decide) rfl (fun ls hl => ?_)
        refine lv_iload_n hx hb dX11_depth_41 rfl (lv_at hl 3 rfl) ?_
        refine lv_istore (lv' := [(4, .int p1), (3, .int 0), (0, .ref a), (1, .int p0), (2, .int p1)]) hx hb dX11_depth_42 hl (by decide) rfl (fun ls hl => ?_)
        have L44 : ∀ (N19 : Nat) (x17 : Int32) (x18 : Int32) (H : Heap) (locs : List Loc) (ls : Array Slot), 0 ≤ x18.toInt ∧ x18.toInt ≤ 29 → (0 : Int) ≤ x17.toInt → 2147483648 - x17.toInt < ((N19 : Nat) : Int) → TW E K F (tl, [0, z1, z2, z3, z4, z5, z6, z7, z8, z9, z10, z11, z12, z13, z14, z15, z16, z17, z18, z19, z20], [ar0, ar1, ar2, ar3, ar4, ar5, ar6, ar7, ar8, ar9, ar10]) [] H → va_S (xA E) s.heap H locs → lv_has ls 6 [(0, .ref a), (1, .int p0), (3, .int x17), (4, .int x18)] → W p l e rm_X11_depth s m args below meth c H locs 0 0 Q (F0 m 44 ls []) := by
          intro N19
          induction N19 with
          | zero =>
            intro x17 x18 H locs ls hf20 hf21 hm22
            exact absurd hm22 (z_X11_depth_4 x17.toInt hf21 (xr x17))
          | succ N19 ih23 =>
            intro x17 x18 H locs ls hf20 hf21 hm22 hT hS hl
            refine lv_iload_n hx hb dX11_depth_44 rfl (lv_at hl 2 rfl) ?_
            refine lv_bipush (v := 30) hx hb dX11_depth_45 (by decide) ?_
            refine xi_cgt (tgt := 104) hx hb (rfl : Int32.toInt x17 = x17.toInt) ((by decide) : Int32.toInt 30 = (30 : Int)) dX11_depth_47 (by decide) (fun c24 => ?_) (fun c24 => ?_)
            · refine lv_bipush (v := (-2)) hx hb dX11_depth_104 (by decide) ?_
              exact x_ri hx hb hr hlk hQ (Nat.le_of_ble_eq_true rfl) (Nat.le_of_ble_eq_true rfl) hS dX11_depth_106 (0) ⟨_, rfl⟩ hT.nil
            · refine lv_aload_n hx hb dX11_depth_50 rfl (lv_at hl 0 rfl) ?_
              refine gX11_1 S hK hT ha kf_X11_9 dX11_depth_51 (fun hk25 => ?_)
              refine lv_aload_n hx hb dX11_depth_54 rfl (lv_at hl 0 rfl) ?_
              refine lv_iload_n hx hb dX11_depth_55 rfl (lv_at hl 1 rfl) ?_
              refine lv_iconst (v := 1) hx hb dX11_depth_56 (by decide) ?_
              refine x_clp (x_runV (b := a) (As := [.int p0, .int 1]) (rest := [.ref (F a 1)]) S (c_X11_of l E K F tl 0 z1 z2 z3 z4 z5 z6 z7 z8 z9 z10 z11 z12 z13 z14 z15 z16 z17 z18 z19 z20 ar0 ar1 ar2 ar3 ar4 ar5 ar6 ar7 ar8 ar9 ar10 H a p0 1 ha (z_X11_depth_5 p0.toInt x2.toInt x6.toInt (aI ar1 (10 * p0.toInt + (0 : Int))) (aI ar1 (10 * p0.toInt + (3 : Int))) t1 (xbz b3) c4 t5 (v8).1 (v8).2.2.2.1 (v8).2.2.2.2 c9 (xr p0) (xr x2) (xr x6)) (by decide)) mv_X11_of km_X11_165 rfl rfl ⟨Nat.le_of_ble_eq_true rfl, Nat.le_of_ble_eq_true rfl⟩ (rc_13 hK hT ha) hK (fun _ => XPh.blind) (fun U hU hW => XPh.at hK hz hS hT hU hW) rfl hl.1 (Nat.le_of_ble_eq_true rfl) dX11_depth_57 ⟨Nat.le_of_ble_eq_true rfl, Nat.le_of_ble_eq_true rfl⟩) hS ?_
              rintro _ _ locs ⟨x27, rfl, t26⟩ hS
              have t26 : x27.toInt = (aI ar1 (10 * p0.toInt + (1 : Int))) := t26
              refine lv_iload hx hb dX11_depth_60 (lv_at hl 3 rfl) ?_
              refine x_clp (x_runS (As := [.int x27, .int x18]) (rest := [.ref (F a 1)]) S (c_X11_at l E K F tl 0 z1 z2 z3 z4 z5 z6 z7 z8 z9 z10 z11 z12 z13 z14 z15 z16 z17 z18 z19 z20 ar0 ar1 ar2 ar3 ar4 ar5 ar6 ar7 ar8 ar9 ar10 H x27 x18) ms_X11_at km_X11_156 rfl rfl ⟨Nat.le_of_ble_eq_true rfl, Nat.le_of_ble_eq_true rfl⟩ hK (fun _ => XPh.blind) (fun U hU hW => XPh.at hK hz hS hT hU hW) rfl hl.1 (Nat.le_of_ble_eq_true rfl) dX11_depth_62 ⟨Nat.le_of_ble_eq_true rfl, Nat.le_of_ble_eq_true rfl⟩) hS ?_
              rintro _ _ locs ⟨x30, rfl, t29⟩ hS
              have t29 : 0 ≤ x27.toInt ∧ x27.toInt ≤ 2 ∧ 0 ≤ x18.toInt ∧ x18.toInt ≤ 29 → x30.toInt = 4 * (30 * x27.toInt + x18.toInt) := t29
              refine lv_iconst (v := 1) hx hb dX11_depth_65 (by decide) ?_
              refine xi_iadd hx hb (rfl : Int32.toInt x30 = x30.toInt) ((by decide) : Int32.toInt 1 = (1 : Int)) dX11_depth_66 (fun x32 t33 => ?_)
              refine lv_aload_n hx hb dX11_depth_67 rfl (lv_at hl 0 rfl) ?_
              refine lv_iload_n hx hb dX11_depth_68 rfl (lv_at hl 1 rfl) ?_
              refine lv_iconst (v := 2) hx hb dX11_depth_69 (by decide) ?_
              refine x_clp (x_runV (b := a) (As := [.int p0, .int 2]) (rest := [.int x32, .ref (F a 1)]) S (c_X11_of l E K F tl 0 z1 z2 z3 z4 z5 z6 z7 z8 z9 z10 z11 z12 z13 z14 z15 z16 z17 z18 z19 z20 ar0 ar1 ar2 ar3 ar4 ar5 ar6 ar7 ar8 ar9 ar10 H a p0 2 ha (z_X11_depth_6 p0.toInt x2.toInt x6.toInt (aI ar1 (10 * p0.toInt + (0 : Int))) (aI ar1 (10 * p0.toInt + (3 : Int))) t1 (xbz b3) c4 t5 (v8).1 (v8).2.2.2.1 (v8).2.2.2.2 c9 (xr p0) (xr x2) (xr x6)) (by decide)) mv_X11_of km_X11_165 rfl rfl ⟨Nat.le_of_ble_eq_true rfl, Nat.le_of_ble_eq_true rfl⟩ (rc_13 hK hT ha) hK (fun _ => XPh.blind) (fun U hU hW => XPh.at hK hz hS hT hU hW) rfl hl.1 (Nat.le_of_ble_eq_true rfl) dX11_depth_70 ⟨Nat.le_of_ble_eq_true rfl, Nat.le_of_ble_eq_true rfl⟩) hS ?_
              rintro _ _ locs ⟨x35, rfl, t34⟩ hS
              have t34 : x35.toInt = (aI ar1 (10 * p0.toInt + (2 : Int))) := t34
              refine xi_iadd hx hb (rfl : Int32.toInt x32 = x32.toInt) (rfl : Int32.toInt x35 = x35.toInt) dX11_depth_73 (fun x37 t38 => ?_)
              refine tld_0 S hK hT hk25 (at_30 (f := ar0) rfl) (by decide) (z_X11_depth_7 p1.toInt x11.toInt x14.toInt x18.toInt x27.toInt x30.toInt x32.toInt x35.toInt x37.toInt (aI ar0 (4 * (30 * x11.toInt + p1.toInt))) (aI ar1 (10 * p0.toInt + (1 : Int))) (aI ar1 (10 * p0.toInt + (2 : Int))) (v8).2.1 (v8).2.2.1 t10 t13 (xbz b15) c16 hf20 t26 t29 t33 t34 t38 (xr p1) (xr x11) (xr x14) (xr x18) (xr x27) (xr x30) (xr x32) (xr x35) (xr x37)) dX11_depth_74 (fun x39 w40 o41 => ?_)
              refine lv_istore (lv' := [(5, .int x39), (0, .ref a), (1, .int p0), (3, .int x17), (4, .int x18)]) hx hb dX11_depth_75 hl (by decide) rfl (fun ls hl => ?_)
              refine lv_aload_n hx hb dX11_depth_77 rfl (lv_at hl 1 rfl) ?_
              refine lv_aload_n hx hb dX11_depth_78 rfl (lv_at hl 1 rfl) ?_
              refine lv_iload_n hx hb dX11_depth_79 rfl (lv_at hl 2 rfl) ?_
              refine lv_iconst (v := 1) hx hb dX11_depth_80 (by decide) ?_
              refine x_clp (x_runV (b := a) (As := [.int p0, .int 1]) (rest := [.ref a]) S (c_X11_of l E K F tl 0 z1 z2 z3 z4 z5 z6 z7 z8 z9 z10 z11 z12 z13 z14 z15 z16 z17 z18 z19 z20 ar0 ar1 ar2 ar3 ar4 ar5 ar6 ar7 ar8 ar9 ar10 H a p0 1 ha (z_X11_depth_8 p0.toInt x2.toInt x6.toInt (aI ar1 (10 * p0.toInt + (0 : Int))) (aI ar1 (10 * p0.toInt + (3 : Int))) t1 (xbz b3) c4 t5 (v8).1 (v8).2.2.2.1 (v8).2.2.2.2 c9 (xr p0) (xr x2) (xr x6)) (by decide)) mv_X11_of km_X11_165 rfl rfl ⟨Nat.le_of_ble_eq_true rfl, Nat.le_of_ble_eq_true rfl⟩ (rc_13 hK hT ha) hK (fun _ => XPh.blind) (fun U hU hW => XPh.at hK hz hS hT hU hW) rfl hl.1 (Nat.le_of_ble_eq_true rfl) dX11_depth_81 ⟨Nat.le_of_ble_eq_true rfl, Nat.le_of_ble_eq_true rfl⟩) hS ?_
              rintro _ _ locs ⟨x44, rfl, t43⟩ hS
              have t43 : x44.toInt = (aI ar1 (10 * p0.toInt + (1 : Int))) := t43
              refine lv_iload hx hb dX11_depth_84 (lv_at hl 0 rfl) ?_
              refine x_clp (x_runV (b := a) (As := [.int x44, .int x39]) (rest := []) S (c_X11_isRow l E K F tl 0 z1 z2 z3 z4 z5 z6 z7 z8 z9 z10 z11 z12 z13 z14 z15 z16 z17 z18 z19 z20 ar0 ar1 ar2 ar3 ar4 ar5 ar6 ar7 ar8 ar9 ar10 H a x44 x39 ha) mv_X11_isRow km_X11_346 rfl rfl ⟨Nat.le_of_ble_eq_true rfl, Nat.le_of_ble_eq_true rfl⟩ (rc_13 hK hT ha) hK (fun _ => XPh.blind) (fun U hU hW => XPh.at hK hz hS hT hU hW) rfl hl.1 (Nat.le_of_ble_eq_true rfl) dX11_depth_86 ⟨Nat.le_of_ble_eq_true rfl, Nat.le_of_ble_eq_true rfl⟩) hS ?_
              rintro _ _ locs ⟨x47, rfl, b48, t46⟩ hS
              have t46 : x47.toInt = 0 ∨ (x47.toInt = 1 ∧ 0 ≤ x44.toInt ∧ x44.toInt ≤ 2 ∧ 0 ≤ x39.toInt ∧ x39.toInt ≤ 29 ∧ (aI ar0 (4 * (30 * x44.toInt + x39.toInt))) = 1) := t46
              refine xi_zne (tgt := 94) hx hb (rfl : Int32.toInt x47 = x47.toInt) dX11_depth_89 (by decide) (fun c49 => ?_) (fun c49 => ?_)
              · refine xi_iinc (n := 1) (lv' := fun z9 => [(3, .int z9), (5, .int x39), (0, .ref a), (1, .int p0), (4, .int x18)]) (k := 3) hx hb (rfl : Int32.toInt x17 = x17.toInt) (by decide) dX11_depth_94 hl rfl (by decide) (fun _ => rfl) (fun x50 ls t51 hl => ?_)
                have hl : lv_has ls 6 [(3, .int x50), (5, .int x39), (0, .ref a), (1, .int p0), (4, .int x18)] := hl
                refine lv_iload hx hb dX11_depth_97 (lv_at hl 1 rfl) ?_
                refine lv_istore (lv' := [(4, .int x39), (3, .int x50), (5, .int x39), (0, .ref a), (1, .int p0)]) hx hb dX11_depth_99 hl (by decide) rfl (fun ls hl => ?_)
                refine lv_goto (tgt := 44) hx hb dX11_depth_101 (by decide) ?_
                exact ih23 x50 x39 _ _ _ (z_X11_depth_9 p1.toInt x11.toInt x14.toInt x18.toInt x27.toInt x30.toInt x32.toInt x35.toInt x37.toInt x39.toInt x44.toInt x47.toInt (aI ar0 (4 * (30 * x11.toInt + p1.toInt))) (aI ar0 (4 * (30 * x44.toInt + x39.toInt))) (aI ar0 x37.toInt) (aI ar1 (10 * p0.toInt + (1 : Int))) (aI ar1 (10 * p0.toInt + (2 : Int))) (v8).2.1 (v8).2.2.1 t10 t13 (xbz b15) c16 hf20 t26 t29 t33 t34 t38 w40 t43 t46 (xbz b48) c49 (xr p1) (xr x11) (xr x14) (xr x18) (xr x27) (xr x30) (xr x32) (xr x35) (xr x37) (xr x39) (xr x44) (xr x47)) (z_X11_depth_10 x17.toInt x50.toInt N19 hf21 hm22 c24 t51 (xr x17) (xr x50)) (z_X11_depth_11 x17.toInt x50.toInt N19 hf21 hm22 c24 t51 (xr x17) (xr x50)) hT.nil hS (lv_sub hl [3, 4, 1, 0] rfl)
              · refine lv_iload_n hx hb dX11_depth_92 rfl (lv_at hl 3 rfl) ?_
                exact x_ri hx hb hr hlk hQ (Nat.le_of_ble_eq_true rfl) (Nat.le_of_ble_eq_true rfl) hS dX11_depth_93 (0) ⟨_, rfl⟩ hT.nil
        exact L44 4294967297 0 p1 _ _ _ (z_X11_depth_12 p1.toInt x11.toInt x14.toInt (aI ar0 (4 * (30 * x11.toInt + p1.toInt))) (aI ar1 (10 * p0.toInt + (1 : Int))) (v8).2.1 t10 t13 (xbz b15) c16 (xr p1) (xr x11) (xr x14)) (by decide) (by decide) hT.nil hS (lv_sub hl [2, 3, 1, 0] rfl)
      · refine lv_iconst (v := (-1)) hx hb dX11_depth_37 (by decide) ?_
        exact x_ri hx hb hr hlk hQ (Nat.le_of_ble_eq_true rfl) (Nat.le_of_ble_eq_true rfl) hS dX11_depth_38 (0) ⟨_, rfl⟩ hT.nil

theorem z_X11_since_1 (a0 : Int) (a1 : Int) (h0 : (a1 = 1 ∧ (0 : Int) ≤ a0 ∧ a0 ≤ (6 : Int)) ∨ (a1 = 0 ∧ (a0 < (0 : Int) ∨ (6 : Int) < a0))) (h1 : a1 ≠ 0) (h2 : a0 ≠ (6 : Int)) (r0 : -2147483648 ≤ a0 ∧ a0 < 2147483648) (r1 : -2147483648 ≤ a1 ∧ a1 < 2147483648) : 0 ≤ a0 ∧ a0 < ((6 : Nat) : Int) := by first | (clear h1; omega) | omega
abbrev rm_X11_since : Room := { frames := 1, cells := 0, slots := 0, locals := 25 }
set_option maxHeartbeats 4000000 in
set_option maxRecDepth 100000 in
theorem c_X11_since (l : Launch) (E : XE) (K : Nat → Nat) (F : Nat → Nat → Nat) (tl z0 z1 z2 z3 z4 z5 z6 z7 z8 z9 z10 z11 z12 z13 z14 z15 z16 z17 z18 z19 z20 : Int32) (ar0 ar1 ar2 ar3 ar4 ar5 ar6 ar7 ar8 ar9 ar10 : Nat → Int32) (a : Nat) (p0 : Int32) (ha : K a = 13) : Met l yX11_since (xw yX11_since cX11_since 2 (some .int)) rm_X11_since (va_Pc [.ref a, .int p0] (XP E K F (tl, [z0, z1, z2, z3, z4, z5, z6, z7, z8, z9, z10, z11, z12, z13, z14, z15, z16, z17, z18, z19, z20], [ar0, ar1, ar2, ar3, ar4, ar5, ar6, ar7, ar8, ar9, ar10]))) (XQ E (fun v (u : Int32) => ∃ r : Int32, v = .int r) (fun u H => TW E K F (tl, [u, z1, z2, z3, z4, z5, z6, z7, z8, z9, z10, z11, z12, z13, z14, z15, z16, z17, z18, z19, z20], [ar0, ar1, ar2, ar3, ar4, ar5, ar6, ar7, ar8, ar9, ar10]) [] H)) 0 0 (xA E) := by
  refine x_enter (by decide) (Nat.le_of_ble_eq_true rfl) ?_
  intro p e s m args below meth c Q S hr hlk hnm hQ hP ls hl
  obtain ⟨hz, hK, hT⟩ := hP
  obtain ⟨hx, hb, -, -, -⟩ := id S
  obtain ⟨H, hT, hS, hgo⟩ : ∃ H : Heap, TW E K F (tl, [z0, z1, z2, z3, z4, z5, z6, z7, z8, z9, z10, z11, z12, z13, z14, z15, z16, z17, z18, z19, z20], [ar0, ar1, ar2, ar3, ar4, ar5, ar6, ar7, ar8, ar9, ar10]) [] H ∧ va_S (xA E) s.heap H [] ∧ H = s.heap := ⟨_, hT, va_S.rf, rfl⟩
  rw [← hgo]
  have hl : lv_has ls 2 [(0, .ref a), (1, .int p0)] := hl
  refine lv_aload_n hx hb dX11_since_0 rfl (lv_at hl 0 rfl) ?_
  refine lv_iconst (v := 0) hx hb dX11_since_1 (by decide) ?_
  refine pX11_0 (kq := []) (v := 0) S hK hT hS ha kf_X11_134 (Nat.le_of_ble_eq_true rfl) dX11_since_2 (fun _ h => by cases h) (fun H locs hT hS => ?_)
  have hT : TW E K F (tl, [0, z1, z2, z3, z4, z5, z6, z7, z8, z9, z10, z11, z12, z13, z14, z15, z16, z17, z18, z19, z20], [ar0, ar1, ar2, ar3, ar4, ar5, ar6, ar7, ar8, ar9, ar10]) [] H := hT
  refine lv_aload_n hx hb dX11_since_5 rfl (lv_at hl 0 rfl) ?_
  refine gX11_6 S hK hT ha kf_X11_206 dX11_since_6 (v := z1) rfl ?_
  have J24 : ∀ (H : Heap) (locs : List Loc) (ls : Array Slot), TW E K F (tl, [0, z1, z2, z3, z4, z5, z6, z7, z8, z9, z10, z11, z12, z13, z14, z15, z16, z17, z18, z19, z20], [ar0, ar1, ar2, ar3, ar4, ar5, ar6, ar7, ar8, ar9, ar10]) [] H → va_S (xA E) s.heap H locs → lv_has ls 2 [] → W p l e rm_X11_since s m args below meth c H locs 0 0 Q (F0 m 24 ls []) := by
    intro H locs ls hT hS hl
    refine lv_iconst (v := (-1)) hx hb dX11_since_24 (by decide) ?_
    refine lv_goto (tgt := 47) hx hb dX11_since_25 (by decide) ?_
    exact x_ri hx hb hr hlk hQ (Nat.le_of_ble_eq_true rfl) (Nat.le_of_ble_eq_true rfl) hS dX11_since_47 (0) ⟨_, rfl⟩ hT.nil
  refine xi_zeq (tgt := 24) hx hb (rfl : Int32.toInt z1 = z1.toInt) dX11_since_9 (by decide) (fun c1 => ?_) (fun c1 => ?_)
  · exact J24 _ _ _ hT.nil hS (lv_sub hl [] rfl)
  · refine lv_iload_n hx hb dX11_since_12 rfl (lv_at hl 1 rfl) ?_
    refine lv_i2l (v := p0.toInt64) hx hb dX11_since_13 rfl ?_
    refine lv_lconst (v := (0 : Int64)) hx hb dX11_since_14 (by decide) ?_
    refine lv_ldc2 (v := 6) hx hb S.2.2.2.1 (S.2.2.2.2 _ (List.mem_cons_of_mem _ kc_X11_396)) dX11_since_15 ?_
    refine x_clp (x_runS (As := [.long p0.toInt64, .long (0 : Int64), .long (6 : Int64)]) (rest := []) S (c_X11_in l E K F tl 0 z1 z2 z3 z4 z5 z6 z7 z8 z9 z10 z11 z12 z13 z14 z15 z16 z17 z18 z19 z20 ar0 ar1 ar2 ar3 ar4 ar5 ar6 ar7 ar8 ar9 ar10 H p0.toInt64 (0 : Int64) (6 : Int64) p0.toInt (0 : Int) (6 : Int) (xl_i2l (rfl : Int32.toInt p0 = p0.toInt)) (by decide) (by decide)) ms_X11_in km_X11_139 rfl rfl ⟨Nat.le_of_ble_eq_true rfl, Nat.le_of_ble_eq_true rfl⟩ hK (fun _ => XPh.blind) (fun U hU hW => XPh.at hK hz hS hT hU hW) rfl hl.1 (Nat.le_of_ble_eq_true rfl) dX11_since_18 ⟨Nat.le_of_ble_eq_true rfl, Nat.le_of_ble_eq_true rfl⟩) hS ?_
    rintro _ _ locs ⟨x2, rfl, b3, t4⟩ hS
    have t4 : (x2.toInt = 1 ∧ (0 : Int) ≤ p0.toInt ∧ p0.toInt ≤ (6 : Int)) ∨ (x2.toInt = 0 ∧ (p0.toInt < (0 : Int) ∨ (6 : Int) < p0.toInt)) := t4
    refine xi_zne (tgt := 28) hx hb (rfl : Int32.toInt x2 = x2.toInt) dX11_since_21 (by decide) (fun c5 => ?_) (fun c5 => ?_)
    · refine lv_iload_n hx hb dX11_since_28 rfl (lv_at hl 1 rfl) ?_
      refine lv_bipush (v := 6) hx hb dX11_since_29 (by decide) ?_
      refine xi_cne (tgt := 41) hx hb (rfl : Int32.toInt p0 = p0.toInt) ((by decide) : Int32.toInt 6 = (6 : Int)) dX11_since_31 (by decide) (fun c6 => ?_) (fun c6 => ?_)
      · refine lv_aload_n hx hb dX11_since_41 rfl (lv_at hl 0 rfl) ?_
        refine gX11_8 S hK hT ha kf_X11_27 dX11_since_42 (fun hk7 => ?_)
        refine lv_iload_n hx hb dX11_since_45 rfl (lv_at hl 1 rfl) ?_
        refine al_0 S hK hT hk7 ar_35 (by decide) (z_X11_since_1 p0.toInt x2.toInt t4 c5 c6 (xr p0) (xr x2)) dX11_since_46 (fun x8 o9 => ?_)
        exact x_ri hx hb hr hlk hQ (Nat.le_of_ble_eq_true rfl) (Nat.le_of_ble_eq_true rfl) hS dX11_since_47 (0) ⟨_, rfl⟩ hT.nil
      · refine lv_aload_n hx hb dX11_since_34 rfl (lv_at hl 0 rfl) ?_
        refine gX11_7 S hK hT ha kf_X11_373 dX11_since_35 (v := z2) rfl ?_
        refine lv_goto (tgt := 47) hx hb dX11_since_38 (by decide) ?_
        exact x_ri hx hb hr hlk hQ (Nat.le_of_ble_eq_true rfl) (Nat.le_of_ble_eq_true rfl) hS dX11_since_47 (0) ⟨_, rfl⟩ hT.nil
    · exact J24 _ _ _ hT.nil hS (lv_sub hl [] rfl)

theorem z_X11_lateMany_1 (a0 : Int) (h0 : (0 : Int) ≤ a0) (r0 : -2147483648 ≤ a0 ∧ a0 < 2147483648) : ¬ (2147483648 - a0 < ((0 : Nat) : Int)) := by omega
theorem z_X11_lateMany_2 (a0 : Int) (a1 : Int) (a2 : Int) (a3 : Nat) (a4 : Int) (h0 : (0 : Int) ≤ a1) (h1 : 2147483648 - a1 < ((a3 + 1 : Nat) : Int)) (h2 : ¬ ((12 : Int) ≤ a1)) (h3 : a2 = 0 ∨ (a2 = 1 ∧ 0 ≤ a1 ∧ a1 ≤ 11 ∧ 0 ≤ a4)) (h4 : a2 = 0 ∨ a2 = 1) (h5 : a0 = a1 + 1 ∨ a1 + 1 < -2147483648 ∨ 2147483648 ≤ a1 + 1) (r0 : -2147483648 ≤ a0 ∧ a0 < 2147483648) (r1 : -2147483648 ≤ a1 ∧ a1 < 2147483648) (r2 : -2147483648 ≤ a2 ∧ a2 < 2147483648) : (0 : Int) ≤ a0 := by first | (clear h3 h4; omega) | (clear h4; omega) | omega
theorem z_X11_lateMany_3 (a0 : Int) (a1 : Int) (a2 : Int) (a3 : Nat) (a4 : Int) (h0 : (0 : Int) ≤ a1) (h1 : 2147483648 - a1 < ((a3 + 1 : Nat) : Int)) (h2 : ¬ ((12 : Int) ≤ a1)) (h3 : a2 = 0 ∨ (a2 = 1 ∧ 0 ≤ a1 ∧ a1 ≤ 11 ∧ 0 ≤ a4)) (h4 : a2 = 0 ∨ a2 = 1) (h5 : a0 = a1 + 1 ∨ a1 + 1 < -2147483648 ∨ 2147483648 ≤ a1 + 1) (r0 : -2147483648 ≤ a0 ∧ a0 < 2147483648) (r1 : -2147483648 ≤ a1 ∧ a1 < 2147483648) (r2 : -2147483648 ≤ a2 ∧ a2 < 2147483648) : 2147483648 - a0 < ((a3 : Nat) : Int) := by first | (clear h3 h4; omega) | (clear h4; omega) | omega
theorem z_X11_lateMany_4 (a0 : Int) (a1 : Int) (a2 : Nat) (a3 : Int) (h0 : (0 : Int) ≤ a0) (h1 : 2147483648 - a0 < ((a2 + 1 : Nat) : Int)) (h2 : ¬ ((12 : Int) ≤ a0)) (h3 : a1 = 0 ∨ (a1 = 1 ∧ 0 ≤ a0 ∧ a0 ≤ 11 ∧ 0 ≤ a3)) (h4 : a1 = 0 ∨ a1 = 1) (h5 : ¬ (a1 = 0)) (r0 : -2147483648 ≤ a0 ∧ a0 < 2147483648) (r1 : -2147483648 ≤ a1 ∧ a1 < 2147483648) : 0 ≤ a0 ∧ a0 ≤ 11 := by first | (clear h4 h5; omega) | omega
theorem z_X11_lateMany_5 (a0 : Int) (a1 : Int) (a2 : Nat) (a3 : Int) (h0 : (0 : Int) ≤ a0) (h1 : 2147483648 - a0 < ((a2 + 1 : Nat) : Int)) (h2 : ¬ ((12 : Int) ≤ a0)) (h3 : a1 = 0 ∨ (a1 = 1 ∧ 0 ≤ a0 ∧ a0 ≤ 11 ∧ 0 ≤ a3)) (h4 : a1 = 0 ∨ a1 = 1) (h5 : ¬ (a1 = 0)) (r0 : -2147483648 ≤ a0 ∧ a0 < 2147483648) (r1 : -2147483648 ≤ a1 ∧ a1 < 2147483648) : 0 ≤ a0 ∧ a0 ≤ 11 := by first | (clear h4 h5; omega) | omega
abbrev rm_X11_lateMany : Room := { frames := 2, cells := 0, slots := 0, locals := 46 }
set_option maxHeartbeats 4000000 in
set_option maxRecDepth 100000 in
theorem c_X11_lateMany (l : Launch) (E : XE) (K : Nat → Nat) (F : Nat → Nat → Nat) (tl z0 z1 z2 z3 z4 z5 z6 z7 z8 z9 z10 z11 z12 z13 z14 z15 z16 z17 z18 z19 z20 : Int32) (ar0 ar1 ar2 ar3 ar4 ar5 ar6 ar7 ar8 ar9 ar10 : Nat → Int32) (h0 : Heap) (a : Nat) (ha : K a = 13) (hR : RV ar1) : Met l yX11_lateMany (xw yX11_lateMany cX11_lateMany 3 (some .int)) rm_X11_lateMany (va_Pc [.ref a] (XPh E K F (tl, [z0, z1, z2, z3, z4, z5, z6, z7, z8, z9, z10, z11, z12, z13, z14, z15, z16, z17, z18, z19, z20], [ar0, ar1, ar2, ar3, ar4, ar5, ar6, ar7, ar8, ar9, ar10]) h0)) (XQ E (fun v (u : Unit) => ∃ r : Int32, v = .int r) (fun _ H => H = h0)) 0 0 (xA E) := by
  refine x_enter (by decide) (Nat.le_of_ble_eq_true rfl) ?_
  intro p e s m args below meth c Q S hr hlk hnm hQ hP ls hl
  obtain ⟨⟨hz, hK, hT⟩, hh⟩ := hP
  obtain ⟨hx, hb, -, -, -⟩ := id S
  have hS : va_S (xA E) s.heap s.heap [] := va_S.rf
  have hl : lv_has ls 3 [(0, .ref a)] := hl
  refine lv_iconst (v := 0) hx hb dX11_lateMany_0 (by decide) ?_
  refine lv_istore_n (lv' := [(1, .int 0), (0, .ref a)]) hx hb dX11_lateMany_1 rfl hl (by decide) rfl (fun ls hl => ?_)
  refine lv_iconst (v := 0) hx hb dX11_lateMany_2 (by decide) ?_
  refine lv_istore_n (lv' := [(2, .int 0), (1, .int 0), (0, .ref a)]) hx hb dX11_lateMany_3 rfl hl (by decide) rfl (fun ls hl => ?_)
  have L4 : ∀ (N3 : Nat) (x1 : Int32) (x2 : Int32) (locs : List Loc) (ls : Array Slot), (0 : Int) ≤ x2.toInt → 2147483648 - x2.toInt < ((N3 : Nat) : Int) → TW E K F (tl, [z0, z1, z2, z3, z4, z5, z6, z7, z8, z9, z10, z11, z12, z13, z14, z15, z16, z17, z18, z19, z20], [ar0, ar1, ar2, ar3, ar4, ar5, ar6, ar7, ar8, ar9, ar10]) [] s.heap → va_S (xA E) s.heap s.heap locs → lv_has ls 3 [(0, .ref a), (1, .int x1), (2, .int x2)] → W p l e rm_X11_lateMany s m args below meth c s.heap locs 0 0 Q (F0 m 4 ls []) := by
    intro N3
    induction N3 with
    | zero =>
      intro x1 x2 locs ls hf4 hm5
      exact absurd hm5 (z_X11_lateMany_1 x2.toInt hf4 (xr x2))
    | succ N3 ih6 =>
      intro x1 x2 locs ls hf4 hm5 hT hS hl
      refine lv_iload_n hx hb dX11_lateMany_4 rfl (lv_at hl 2 rfl) ?_
      refine lv_bipush (v := 12) hx hb dX11_lateMany_5 (by decide) ?_
      refine xi_cge (tgt := 38) hx hb (rfl : Int32.toInt x2 = x2.toInt) ((by decide) : Int32.toInt 12 = (12 : Int)) dX11_lateMany_7 (by decide) (fun c7 => ?_) (fun c7 => ?_)
      · refine lv_iload_n hx hb dX11_lateMany_38 rfl (lv_at hl 1 rfl) ?_
        exact x_ri hx hb hr hlk hQ (Nat.le_of_ble_eq_true rfl) (Nat.le_of_ble_eq_true rfl) hS dX11_lateMany_39 () ⟨_, rfl⟩ hh
      · refine lv_iload_n hx hb dX11_lateMany_10 rfl (lv_at hl 1 rfl) ?_
        refine lv_aload_n hx hb dX11_lateMany_11 rfl (lv_at hl 0 rfl) ?_
        refine lv_iload_n hx hb dX11_lateMany_12 rfl (lv_at hl 2 rfl) ?_
        refine x_clp (x_runV (b := a) (As := [.int x2]) (rest := [.int x1]) S (c_X11_isRule l E K F tl z0 z1 z2 z3 z4 z5 z6 z7 z8 z9 z10 z11 z12 z13 z14 z15 z16 z17 z18 z19 z20 ar0 ar1 ar2 ar3 ar4 ar5 ar6 ar7 ar8 ar9 ar10 s.heap a x2 ha hR) mv_X11_isRule km_X11_162 rfl rfl ⟨Nat.le_of_ble_eq_true rfl, Nat.le_of_ble_eq_true rfl⟩ (rc_13 hK hT ha) hK (fun _ => XPh.blind) (fun U hU hW => XPh.at hK hz hS hT hU hW) rfl hl.1 (Nat.le_of_ble_eq_true rfl) dX11_lateMany_13 ⟨Nat.le_of_ble_eq_true rfl, Nat.le_of_ble_eq_true rfl⟩) hS ?_
        rintro _ _ locs ⟨x9, rfl, b10, t8⟩ hS
        have t8 : x9.toInt = 0 ∨ (x9.toInt = 1 ∧ 0 ≤ x2.toInt ∧ x2.toInt ≤ 11 ∧ 0 ≤ (aI ar1 (10 * x2.toInt + (0 : Int)))) := t8
        have J30 : ∀ (x11 : Int32) (locs : List Loc) (ls : Array Slot), TW E K F (tl, [z0, z1, z2, z3, z4, z5, z6, z7, z8, z9, z10, z11, z12, z13, z14, z15, z16, z17, z18, z19, z20], [ar0, ar1, ar2, ar3, ar4, ar5, ar6, ar7, ar8, ar9, ar10]) [] s.heap → va_S (xA E) s.heap s.heap locs → lv_has ls 3 [(0, .ref a), (2, .int x2)] → W p l e rm_X11_lateMany s m args below meth c s.heap locs 0 0 Q (F0 m 30 ls [.int x11, .int x1]) := by
          intro x11 locs ls hT hS hl
          refine xi_iadd hx hb (rfl : Int32.toInt x1 = x1.toInt) (rfl : Int32.toInt x11 = x11.toInt) dX11_lateMany_30 (fun x12 t13 => ?_)
          refine lv_istore_n (lv' := [(1, .int x12), (0, .ref a), (2, .int x2)]) hx hb dX11_lateMany_31 rfl hl (by decide) rfl (fun ls hl => ?_)
          refine xi_iinc (n := 1) (lv' := fun z9 => [(2, .int z9), (1, .int x12), (0, .ref a)]) (k := 2) hx hb (rfl : Int32.toInt x2 = x2.toInt) (by decide) dX11_lateMany_32 hl rfl (by decide) (fun _ => rfl) (fun x14 ls t15 hl => ?_)
          have hl : lv_has ls 3 [(2, .int x14), (1, .int x12), (0, .ref a)] := hl
          refine lv_goto (tgt := 4) hx hb dX11_lateMany_35 (by decide) ?_
          exact ih6 x12 x14 _ _ (z_X11_lateMany_2 x14.toInt x2.toInt x9.toInt N3 (aI ar1 (10 * x2.toInt + (0 : Int))) hf4 hm5 c7 t8 (xbz b10) t15 (xr x14) (xr x2) (xr x9)) (z_X11_lateMany_3 x14.toInt x2.toInt x9.toInt N3 (aI ar1 (10 * x2.toInt + (0 : Int))) hf4 hm5 c7 t8 (xbz b10) t15 (xr x14) (xr x2) (xr x9)) hT.nil hS (lv_sub hl [2, 1, 0] rfl)
        refine xi_zeq (tgt := 29) hx hb (rfl : Int32.toInt x9 = x9.toInt) dX11_lateMany_16 (by decide) (fun c16 => ?_) (fun c16 => ?_)
        · refine lv_iconst (v := 0) hx hb dX11_lateMany_29 (by decide) ?_
          exact J30 0 _ _ hT.nil hS (lv_sub hl [0, 2] rfl)
        · refine lv_aload_n hx hb dX11_lateMany_19 rfl (lv_at hl 0 rfl) ?_
          refine lv_iload_n hx hb dX11_lateMany_20 rfl (lv_at hl 2 rfl) ?_
          refine lv_bipush (v := 6) hx hb dX11_lateMany_21 (by decide) ?_
          refine x_clp (x_runV (b := a) (As := [.int x2, .int 6]) (rest := [.int x1]) S (c_X11_of l E K F tl z0 z1 z2 z3 z4 z5 z6 z7 z8 z9 z10 z11 z12 z13 z14 z15 z16 z17 z18 z19 z20 ar0 ar1 ar2 ar3 ar4 ar5 ar6 ar7 ar8 ar9 ar10 s.heap a x2 6 ha (z_X11_lateMany_4 x2.toInt x9.toInt N3 (aI ar1 (10 * x2.toInt + (0 : Int))) hf4 hm5 c7 t8 (xbz b10) c16 (xr x2) (xr x9)) (by decide)) mv_X11_of km_X11_165 rfl rfl ⟨Nat.le_of_ble_eq_true rfl, Nat.le_of_ble_eq_true rfl⟩ (rc_13 hK hT ha) hK (fun _ => XPh.blind) (fun U hU hW => XPh.at hK hz hS hT hU hW) rfl hl.1 (Nat.le_of_ble_eq_true rfl) dX11_lateMany_23 ⟨Nat.le_of_ble_eq_true rfl, Nat.le_of_ble_eq_true rfl⟩) hS ?_
          rintro _ _ locs ⟨x18, rfl, t17⟩ hS
          have t17 : x18.toInt = (aI ar1 (10 * x2.toInt + (6 : Int))) := t17
          have v20 : (-1 ≤ (aI ar1 (10 * x2.toInt + (0 : Int))) ∧ (aI ar1 (10 * x2.toInt + (0 : Int))) ≤ 5) ∧ (0 ≤ (aI ar1 (10 * x2.toInt + (1 : Int))) ∧ (aI ar1 (10 * x2.toInt + (1 : Int))) ≤ 2) ∧ (0 ≤ (aI ar1 (10 * x2.toInt + (2 : Int))) ∧ (aI ar1 (10 * x2.toInt + (2 : Int))) ≤ 2) ∧ (-1 ≤ (aI ar1 (10 * x2.toInt + (3 : Int))) ∧ (aI ar1 (10 * x2.toInt + (3 : Int))) ≤ 2) ∧ ((aI ar1 (10 * x2.toInt + (0 : Int))) = 1 ∨ (aI ar1 (10 * x2.toInt + (0 : Int))) = 3 ∨ (aI ar1 (10 * x2.toInt + (0 : Int))) = 4 → 0 ≤ (aI ar1 (10 * x2.toInt + (3 : Int)))) := RV.row hR (z_X11_lateMany_5 x2.toInt x9.toInt N3 (aI ar1 (10 * x2.toInt + (0 : Int))) hf4 hm5 c7 t8 (xbz b10) c16 (xr x2) (xr x9))
          refine lv_goto (tgt := 30) hx hb dX11_lateMany_26 (by decide) ?_
          exact J30 x18 _ _ hT.nil hS (lv_sub hl [0, 2] rfl)
  exact L4 4294967297 0 0 _ _ (by decide) (by decide) hT.nil hS (lv_sub hl [2, 1, 0] rfl)

theorem z_X11_count_1 (a0 : Int) (r0 : -2147483648 ≤ a0 ∧ a0 < 2147483648) : (a0 < 0 ∨ 9 < a0) ∨ (a0 = 0) ∨ (a0 = 1) ∨ (a0 = 2) ∨ (a0 = 3) ∨ (a0 = 4) ∨ (a0 = 5) ∨ (a0 = 6) ∨ (a0 = 7) ∨ (a0 = 8) ∨ (a0 = 9) := by omega
theorem z_X11_count_2 (a0 : Int) (a1 : Int) (a2 : Int) (h0 : a0 < 0 ∨ 9 < a0) (h1 : (a1 = 1 ∧ (4 : Int) ≤ a0 ∧ a0 ≤ (7 : Int)) ∨ (a1 = 0 ∧ (a0 < (4 : Int) ∨ (7 : Int) < a0))) (h2 : ¬ (a1 = 0)) (h3 : a2 = a0 - (4 : Int) ∨ a0 - (4 : Int) < -2147483648 ∨ 2147483648 ≤ a0 - (4 : Int)) (r0 : -2147483648 ≤ a0 ∧ a0 < 2147483648) (r1 : -2147483648 ≤ a1 ∧ a1 < 2147483648) (r2 : -2147483648 ≤ a2 ∧ a2 < 2147483648) : 0 ≤ a2 ∧ a2 < ((4 : Nat) : Int) := by first | (clear h0 h1 h2; omega) | (clear h2; omega) | omega
theorem z_X11_count_3 (a0 : Int) (a1 : Int) (a2 : Int) (h0 : a0 = 4) (h1 : (a1 = 1 ∧ (4 : Int) ≤ a0 ∧ a0 ≤ (7 : Int)) ∨ (a1 = 0 ∧ (a0 < (4 : Int) ∨ (7 : Int) < a0))) (h2 : ¬ (a1 = 0)) (h3 : a2 = a0 - (4 : Int) ∨ a0 - (4 : Int) < -2147483648 ∨ 2147483648 ≤ a0 - (4 : Int)) (r0 : -2147483648 ≤ a0 ∧ a0 < 2147483648) (r1 : -2147483648 ≤ a1 ∧ a1 < 2147483648) (r2 : -2147483648 ≤ a2 ∧ a2 < 2147483648) : 0 ≤ a2 ∧ a2 < ((4 : Nat) : Int) := by first | (clear h1 h2; omega) | (clear h2; omega) | omega
theorem z_X11_count_4 (a0 : Int) (a1 : Int) (a2 : Int) (h0 : a0 = 5) (h1 : (a1 = 1 ∧ (4 : Int) ≤ a0 ∧ a0 ≤ (7 : Int)) ∨ (a1 = 0 ∧ (a0 < (4 : Int) ∨ (7 : Int) < a0))) (h2 : ¬ (a1 = 0)) (h3 : a2 = a0 - (4 : Int) ∨ a0 - (4 : Int) < -2147483648 ∨ 2147483648 ≤ a0 - (4 : Int)) (r0 : -2147483648 ≤ a0 ∧ a0 < 2147483648) (r1 : -2147483648 ≤ a1 ∧ a1 < 2147483648) (r2 : -2147483648 ≤ a2 ∧ a2 < 2147483648) : 0 ≤ a2 ∧ a2 < ((4 : Nat) : Int) := by first | (clear h1 h2; omega) | (clear h2; omega) | omega
theorem z_X11_count_5 (a0 : Int) (a1 : Int) (a2 : Int) (h0 : a0 = 6) (h1 : (a1 = 1 ∧ (4 : Int) ≤ a0 ∧ a0 ≤ (7 : Int)) ∨ (a1 = 0 ∧ (a0 < (4 : Int) ∨ (7 : Int) < a0))) (h2 : ¬ (a1 = 0)) (h3 : a2 = a0 - (4 : Int) ∨ a0 - (4 : Int) < -2147483648 ∨ 2147483648 ≤ a0 - (4 : Int)) (r0 : -2147483648 ≤ a0 ∧ a0 < 2147483648) (r1 : -2147483648 ≤ a1 ∧ a1 < 2147483648) (r2 : -2147483648 ≤ a2 ∧ a2 < 2147483648) : 0 ≤ a2 ∧ a2 < ((4 : Nat) : Int) := by first | (clear h1 h2; omega) | (clear h2; omega) | omega
theorem z_X11_count_6 (a0 : Int) (a1 : Int) (a2 : Int) (h0 : a0 = 7) (h1 : (a1 = 1 ∧ (4 : Int) ≤ a0 ∧ a0 ≤ (7 : Int)) ∨ (a1 = 0 ∧ (a0 < (4 : Int) ∨ (7 : Int) < a0))) (h2 : ¬ (a1 = 0)) (h3 : a2 = a0 - (4 : Int) ∨ a0 - (4 : Int) < -2147483648 ∨ 2147483648 ≤ a0 - (4 : Int)) (r0 : -2147483648 ≤ a0 ∧ a0 < 2147483648) (r1 : -2147483648 ≤ a1 ∧ a1 < 2147483648) (r2 : -2147483648 ≤ a2 ∧ a2 < 2147483648) : 0 ≤ a2 ∧ a2 < ((4 : Nat) : Int) := by first | (clear h1 h2; omega) | (clear h2; omega) | omega
abbrev rm_X11_count : Room := { frames := 6, cells := 0, slots := 0, locals := 142 }
set_option maxHeartbeats 4000000 in
set_option maxRecDepth 100000 in
theorem c_X11_count (l : Launch) (E : XE) (K : Nat → Nat) (F : Nat → Nat → Nat) (tl z0 z1 z2 z3 z4 z5 z6 z7 z8 z9 z10 z11 z12 z13 z14 z15 z16 z17 z18 z19 z20 : Int32) (ar0 ar1 ar2 ar3 ar4 ar5 ar6 ar7 ar8 ar9 ar10 : Nat → Int32) (a : Nat) (p0 : Int32) (ha : K a = 13) (hR : RV ar1) : Met l yX11_count (xw yX11_count cX11_count 2 (some .int)) rm_X11_count (va_Pc [.ref a, .int p0] (XP E K F (tl, [z0, z1, z2, z3, z4, z5, z6, z7, z8, z9, z10, z11, z12, z13, z14, z15, z16, z17, z18, z19, z20], [ar0, ar1, ar2, ar3, ar4, ar5, ar6, ar7, ar8, ar9, ar10]))) (XQ E (fun v (u : Int32 × Int32 × Int32 × (Nat → Int32) × (Nat → Int32) × (Nat → Int32)) => ∃ r : Int32, v = .int r) (fun u H => TW E K F (tl, [u.1, z1, z2, u.2.1, u.2.2.1, z5, z6, z7, z8, z9, z10, z11, z12, z13, z14, z15, z16, z17, z18, z19, z20], [ar0, ar1, u.2.2.2.1, u.2.2.2.2.1, u.2.2.2.2.2, ar5, ar6, ar7, ar8, ar9, ar10]) [] H)) 0 0 (xA E) := by
  refine x_enter (by decide) (Nat.le_of_ble_eq_true rfl) ?_
  intro p e s m args below meth c Q S hr hlk hnm hQ hP ls hl
  obtain ⟨hz, hK, hT⟩ := hP
  obtain ⟨hx, hb, -, -, -⟩ := id S
  obtain ⟨H, hT, hS, hgo⟩ : ∃ H : Heap, TW E K F (tl, [z0, z1, z2, z3, z4, z5, z6, z7, z8, z9, z10, z11, z12, z13, z14, z15, z16, z17, z18, z19, z20], [ar0, ar1, ar2, ar3, ar4, ar5, ar6, ar7, ar8, ar9, ar10]) [] H ∧ va_S (xA E) s.heap H [] ∧ H = s.heap := ⟨_, hT, va_S.rf, rfl⟩
  rw [← hgo]
  have hl : lv_has ls 2 [(0, .ref a), (1, .int p0)] := hl
  refine lv_aload_n hx hb dX11_count_0 rfl (lv_at hl 0 rfl) ?_
  refine lv_iconst (v := 0) hx hb dX11_count_1 (by decide) ?_
  refine pX11_0 (kq := []) (v := 0) S hK hT hS ha kf_X11_134 (Nat.le_of_ble_eq_true rfl) dX11_count_2 (fun _ h => by cases h) (fun H locs hT hS => ?_)
  have hT : TW E K F (tl, [0, z1, z2, z3, z4, z5, z6, z7, z8, z9, z10, z11, z12, z13, z14, z15, z16, z17, z18, z19, z20], [ar0, ar1, ar2, ar3, ar4, ar5, ar6, ar7, ar8, ar9, ar10]) [] H := hT
  refine lv_iload_n hx hb dX11_count_5 rfl (lv_at hl 1 rfl) ?_
  rcases ((z_X11_count_1 p0.toInt (xr p0)) : (p0.toInt < 0 ∨ 9 < p0.toInt) ∨ (p0.toInt = 0) ∨ (p0.toInt = 1) ∨ (p0.toInt = 2) ∨ (p0.toInt = 3) ∨ (p0.toInt = 4) ∨ (p0.toInt = 5) ∨ (p0.toInt = 6) ∨ (p0.toInt = 7) ∨ (p0.toInt = 8) ∨ (p0.toInt = 9)) with c1 | c1 | c1 | c1 | c1 | c1 | c1 | c1 | c1 | c1 | c1
  · refine lv_tableOut (tgt := 98) hx hb dX11_count_6 c1 (by decide) ?_
    refine lv_iload_n hx hb dX11_count_98 rfl (lv_at hl 1 rfl) ?_
    refine lv_i2l (v := p0.toInt64) hx hb dX11_count_99 rfl ?_
    refine lv_ldc2 (v := 4) hx hb S.2.2.2.1 (S.2.2.2.2 _ (List.mem_cons_of_mem _ kc_X11_401)) dX11_count_100 ?_
    refine lv_ldc2 (v := 7) hx hb S.2.2.2.1 (S.2.2.2.2 _ (List.mem_cons_of_mem _ kc_X11_403)) dX11_count_103 ?_
    refine x_clp (x_runS (As := [.long p0.toInt64, .long (4 : Int64), .long (7 : Int64)]) (rest := []) S (c_X11_in l E K F tl 0 z1 z2 z3 z4 z5 z6 z7 z8 z9 z10 z11 z12 z13 z14 z15 z16 z17 z18 z19 z20 ar0 ar1 ar2 ar3 ar4 ar5 ar6 ar7 ar8 ar9 ar10 H p0.toInt64 (4 : Int64) (7 : Int64) p0.toInt (4 : Int) (7 : Int) (xl_i2l (rfl : Int32.toInt p0 = p0.toInt)) (by decide) (by decide)) ms_X11_in km_X11_139 rfl rfl ⟨Nat.le_of_ble_eq_true rfl, Nat.le_of_ble_eq_true rfl⟩ hK (fun _ => XPh.blind) (fun U hU hW => XPh.at hK hz hS hT hU hW) rfl hl.1 (Nat.le_of_ble_eq_true rfl) dX11_count_106 ⟨Nat.le_of_ble_eq_true rfl, Nat.le_of_ble_eq_true rfl⟩) hS ?_
    rintro _ _ locs ⟨x2, rfl, b3, t4⟩ hS
    have t4 : (x2.toInt = 1 ∧ (4 : Int) ≤ p0.toInt ∧ p0.toInt ≤ (7 : Int)) ∨ (x2.toInt = 0 ∧ (p0.toInt < (4 : Int) ∨ (7 : Int) < p0.toInt)) := t4
    refine xi_zeq (tgt := 123) hx hb (rfl : Int32.toInt x2 = x2.toInt) dX11_count_109 (by decide) (fun c5 => ?_) (fun c5 => ?_)
    · refine lv_iconst (v := (-1)) hx hb dX11_count_123 (by decide) ?_
      exact x_ri hx hb hr hlk hQ (Nat.le_of_ble_eq_true rfl) (Nat.le_of_ble_eq_true rfl) hS dX11_count_124 (0, z3, z4, ar2, ar3, ar4) ⟨_, rfl⟩ hT.nil
    · refine lv_aload_n hx hb dX11_count_112 rfl (lv_at hl 0 rfl) ?_
      refine gX11_9 S hK hT ha kf_X11_30 dX11_count_113 (fun hk6 => ?_)
      refine lv_iload_n hx hb dX11_count_116 rfl (lv_at hl 1 rfl) ?_
      refine lv_iconst (v := 4) hx hb dX11_count_117 (by decide) ?_
      refine xi_isub hx hb (rfl : Int32.toInt p0 = p0.toInt) ((by decide) : Int32.toInt 4 = (4 : Int)) dX11_count_118 (fun x7 t8 => ?_)
      refine al_0 S hK hT hk6 ar_36 (by decide) (z_X11_count_2 p0.toInt x2.toInt x7.toInt c1 t4 c5 t8 (xr p0) (xr x2) (xr x7)) dX11_count_119 (fun x9 o10 => ?_)
      refine lv_goto (tgt := 124) hx hb dX11_count_120 (by decide) ?_
      exact x_ri hx hb hr hlk hQ (Nat.le_of_ble_eq_true rfl) (Nat.le_of_ble_eq_true rfl) hS dX11_count_124 (0, z3, z4, ar2, ar3, ar4) ⟨_, rfl⟩ hT.nil
  · refine lv_tableIn (off := 54) (tgt := 60) hx hb dX11_count_6 (by rw [c1]; decide) (by rw [c1]; decide) (by rw [c1]; rfl) (by decide) ?_
    refine lv_aload_n hx hb dX11_count_60 rfl (lv_at hl 0 rfl) ?_
    refine x_clp (x_runV (b := a) (As := []) (rest := []) S (c_X11_ruleMany l E K F tl 0 z1 z2 z3 z4 z5 z6 z7 z8 z9 z10 z11 z12 z13 z14 z15 z16 z17 z18 z19 z20 ar0 ar1 ar2 ar3 ar4 ar5 ar6 ar7 ar8 ar9 ar10 H a ha hR) mv_X11_ruleMany km_X11_303 rfl rfl ⟨Nat.le_of_ble_eq_true rfl, Nat.le_of_ble_eq_true rfl⟩ (rc_13 hK hT ha) hK (fun _ => XPh.blind) (fun U hU hW => XPh.at hK hz hS hT hU hW) rfl hl.1 (Nat.le_of_ble_eq_true rfl) dX11_count_61 ⟨Nat.le_of_ble_eq_true rfl, Nat.le_of_ble_eq_true rfl⟩) hS ?_
    rintro _ _ locs ⟨x11, rfl⟩ hS
    exact x_ri hx hb hr hlk hQ (Nat.le_of_ble_eq_true rfl) (Nat.le_of_ble_eq_true rfl) hS dX11_count_64 (0, z3, z4, ar2, ar3, ar4) ⟨_, rfl⟩ hT.nil
  · refine lv_tableIn (off := 59) (tgt := 65) hx hb dX11_count_6 (by rw [c1]; decide) (by rw [c1]; decide) (by rw [c1]; rfl) (by decide) ?_
    refine lv_aload_n hx hb dX11_count_65 rfl (lv_at hl 0 rfl) ?_
    refine x_clp (x_runV (b := a) (As := []) (rest := []) S (c_X11_rowMany l E K F tl 0 z1 z2 z3 z4 z5 z6 z7 z8 z9 z10 z11 z12 z13 z14 z15 z16 z17 z18 z19 z20 ar0 ar1 ar2 ar3 ar4 ar5 ar6 ar7 ar8 ar9 ar10 H a ha) mv_X11_rowMany km_X11_376 rfl rfl ⟨Nat.le_of_ble_eq_true rfl, Nat.le_of_ble_eq_true rfl⟩ (rc_13 hK hT ha) hK (fun _ => XPh.blind) (fun U hU hW => XPh.at hK hz hS hT hU hW) rfl hl.1 (Nat.le_of_ble_eq_true rfl) dX11_count_66 ⟨Nat.le_of_ble_eq_true rfl, Nat.le_of_ble_eq_true rfl⟩) hS ?_
    rintro _ _ locs ⟨x13, rfl⟩ hS
    exact x_ri hx hb hr hlk hQ (Nat.le_of_ble_eq_true rfl) (Nat.le_of_ble_eq_true rfl) hS dX11_count_69 (0, z3, z4, ar2, ar3, ar4) ⟨_, rfl⟩ hT.nil
  · refine lv_tableIn (off := 64) (tgt := 70) hx hb dX11_count_6 (by rw [c1]; decide) (by rw [c1]; decide) (by rw [c1]; rfl) (by decide) ?_
    refine lv_aload_n hx hb dX11_count_70 rfl (lv_at hl 0 rfl) ?_
    refine x_cl0 (x_runV (b := a) (As := []) (rest := []) S (c_X11_queueMany l E K F tl 0 z1 z2 z3 z4 z5 z6 z7 z8 z9 z10 z11 z12 z13 z14 z15 z16 z17 z18 z19 z20 ar0 ar1 ar2 ar3 ar4 ar5 ar6 ar7 ar8 ar9 ar10 a ha hR) mv_X11_queueMany km_X11_379 rfl rfl ⟨Nat.le_of_ble_eq_true rfl, Nat.le_of_ble_eq_true rfl⟩ (rc_13 hK hT ha) hK (fun _ => XP.blind) (fun U hU hW => XP.at hK hz hS hT hU hW) rfl hl.1 (Nat.le_of_ble_eq_true rfl) dX11_count_71 ⟨Nat.le_of_ble_eq_true rfl, Nat.le_of_ble_eq_true rfl⟩) hS ?_
    rintro _ ⟨u15, u16, f17, f18, f19⟩ H locs ⟨x21, rfl, t20⟩ hT hS
    have hT : TW E K F (tl, [0, z1, z2, u15, u16, z5, z6, z7, z8, z9, z10, z11, z12, z13, z14, z15, z16, z17, z18, z19, z20], [ar0, ar1, f17, f18, f19, ar5, ar6, ar7, ar8, ar9, ar10]) [] H := hT
    have t20 : 0 ≤ u16.toInt ∧ u16.toInt ≤ 2388 ∧ u16.toInt ≤ (((fV ar1 f18 f19) : Nat) : Int) := t20
    exact x_ri hx hb hr hlk hQ (Nat.le_of_ble_eq_true rfl) (Nat.le_of_ble_eq_true rfl) hS dX11_count_74 (0, u15, u16, f17, f18, f19) ⟨_, rfl⟩ hT.nil
  · refine lv_tableIn (off := 69) (tgt := 75) hx hb dX11_count_6 (by rw [c1]; decide) (by rw [c1]; decide) (by rw [c1]; rfl) (by decide) ?_
    refine lv_aload_n hx hb dX11_count_75 rfl (lv_at hl 0 rfl) ?_
    refine gX11_6 S hK hT ha kf_X11_206 dX11_count_76 (v := z1) rfl ?_
    refine xi_zeq (tgt := 86) hx hb (rfl : Int32.toInt z1 = z1.toInt) dX11_count_79 (by decide) (fun c23 => ?_) (fun c23 => ?_)
    · refine lv_iconst (v := 0) hx hb dX11_count_86 (by decide) ?_
      exact x_ri hx hb hr hlk hQ (Nat.le_of_ble_eq_true rfl) (Nat.le_of_ble_eq_true rfl) hS dX11_count_87 (0, z3, z4, ar2, ar3, ar4) ⟨_, rfl⟩ hT.nil
    · refine lv_iconst (v := 1) hx hb dX11_count_82 (by decide) ?_
      refine lv_goto (tgt := 87) hx hb dX11_count_83 (by decide) ?_
      exact x_ri hx hb hr hlk hQ (Nat.le_of_ble_eq_true rfl) (Nat.le_of_ble_eq_true rfl) hS dX11_count_87 (0, z3, z4, ar2, ar3, ar4) ⟨_, rfl⟩ hT.nil
  · refine lv_tableIn (off := 92) (tgt := 98) hx hb dX11_count_6 (by rw [c1]; decide) (by rw [c1]; decide) (by rw [c1]; rfl) (by decide) ?_
    refine lv_iload_n hx hb dX11_count_98 rfl (lv_at hl 1 rfl) ?_
    refine lv_i2l (v := p0.toInt64) hx hb dX11_count_99 rfl ?_
    refine lv_ldc2 (v := 4) hx hb S.2.2.2.1 (S.2.2.2.2 _ (List.mem_cons_of_mem _ kc_X11_401)) dX11_count_100 ?_
    refine lv_ldc2 (v := 7) hx hb S.2.2.2.1 (S.2.2.2.2 _ (List.mem_cons_of_mem _ kc_X11_403)) dX11_count_103 ?_
    refine x_clp (x_runS (As := [.long p0.toInt64, .long (4 : Int64), .long (7 : Int64)]) (rest := []) S (c_X11_in l E K F tl 0 z1 z2 z3 z4 z5 z6 z7 z8 z9 z10 z11 z12 z13 z14 z15 z16 z17 z18 z19 z20 ar0 ar1 ar2 ar3 ar4 ar5 ar6 ar7 ar8 ar9 ar10 H p0.toInt64 (4 : Int64) (7 : Int64) p0.toInt (4 : Int) (7 : Int) (xl_i2l (rfl : Int32.toInt p0 = p0.toInt)) (by decide) (by decide)) ms_X11_in km_X11_139 rfl rfl ⟨Nat.le_of_ble_eq_true rfl, Nat.le_of_ble_eq_true rfl⟩ hK (fun _ => XPh.blind) (fun U hU hW => XPh.at hK hz hS hT hU hW) rfl hl.1 (Nat.le_of_ble_eq_true rfl) dX11_count_106 ⟨Nat.le_of_ble_eq_true rfl, Nat.le_of_ble_eq_true rfl⟩) hS ?_
    rintro _ _ locs ⟨x24, rfl, b25, t26⟩ hS
    have t26 : (x24.toInt = 1 ∧ (4 : Int) ≤ p0.toInt ∧ p0.toInt ≤ (7 : Int)) ∨ (x24.toInt = 0 ∧ (p0.toInt < (4 : Int) ∨ (7 : Int) < p0.toInt)) := t26
    refine xi_zeq (tgt := 123) hx hb (rfl : Int32.toInt x24 = x24.toInt) dX11_count_109 (by decide) (fun c27 => ?_) (fun c27 => ?_)
    · refine lv_iconst (v := (-1)) hx hb dX11_count_123 (by decide) ?_
      exact x_ri hx hb hr hlk hQ (Nat.le_of_ble_eq_true rfl) (Nat.le_of_ble_eq_true rfl) hS dX11_count_124 (0, z3, z4, ar2, ar3, ar4) ⟨_, rfl⟩ hT.nil
    · refine lv_aload_n hx hb dX11_count_112 rfl (lv_at hl 0 rfl) ?_
      refine gX11_9 S hK hT ha kf_X11_30 dX11_count_113 (fun hk28 => ?_)
      refine lv_iload_n hx hb dX11_count_116 rfl (lv_at hl 1 rfl) ?_
      refine lv_iconst (v := 4) hx hb dX11_count_117 (by decide) ?_
      refine xi_isub hx hb (rfl : Int32.toInt p0 = p0.toInt) ((by decide) : Int32.toInt 4 = (4 : Int)) dX11_count_118 (fun x29 t30 => ?_)
      refine al_0 S hK hT hk28 ar_36 (by decide) (z_X11_count_3 p0.toInt x24.toInt x29.toInt c1 t26 c27 t30 (xr p0) (xr x24) (xr x29)) dX11_count_119 (fun x31 o32 => ?_)
      refine lv_goto (tgt := 124) hx hb dX11_count_120 (by decide) ?_
      exact x_ri hx hb hr hlk hQ (Nat.le_of_ble_eq_true rfl) (Nat.le_of_ble_eq_true rfl) hS dX11_count_124 (0, z3, z4, ar2, ar3, ar4) ⟨_, rfl⟩ hT.nil
  · refine lv_tableIn (off := 92) (tgt := 98) hx hb dX11_count_6 (by rw [c1]; decide) (by rw [c1]; decide) (by rw [c1]; rfl) (by decide) ?_
    refine lv_iload_n hx hb dX11_count_98 rfl (lv_at hl 1 rfl) ?_
    refine lv_i2l (v := p0.toInt64) hx hb dX11_count_99 rfl ?_
    refine lv_ldc2 (v := 4) hx hb S.2.2.2.1 (S.2.2.2.2 _ (List.mem_cons_of_mem _ kc_X11_401)) dX11_count_100 ?_
    refine lv_ldc2 (v := 7) hx hb S.2.2.2.1 (S.2.2.2.2 _ (List.mem_cons_of_mem _ kc_X11_403)) dX11_count_103 ?_
    refine x_clp (x_runS (As := [.long p0.toInt64, .long (4 : Int64), .long (7 : Int64)]) (rest := []) S (c_X11_in l E K F tl 0 z1 z2 z3 z4 z5 z6 z7 z8 z9 z10 z11 z12 z13 z14 z15 z16 z17 z18 z19 z20 ar0 ar1 ar2 ar3 ar4 ar5 ar6 ar7 ar8 ar9 ar10 H p0.toInt64 (4 : Int64) (7 : Int64) p0.toInt (4 : Int) (7 : Int) (xl_i2l (rfl : Int32.toInt p0 = p0.toInt)) (by decide) (by decide)) ms_X11_in km_X11_139 rfl rfl ⟨Nat.le_of_ble_eq_true rfl, Nat.le_of_ble_eq_true rfl⟩ hK (fun _ => XPh.blind) (fun U hU hW => XPh.at hK hz hS hT hU hW) rfl hl.1 (Nat.le_of_ble_eq_true rfl) dX11_count_106 ⟨Nat.le_of_ble_eq_true rfl, Nat.le_of_ble_eq_true rfl⟩) hS ?_
    rintro _ _ locs ⟨x33, rfl, b34, t35⟩ hS
    have t35 : (x33.toInt = 1 ∧ (4 : Int) ≤ p0.toInt ∧ p0.toInt ≤ (7 : Int)) ∨ (x33.toInt = 0 ∧ (p0.toInt < (4 : Int) ∨ (7 : Int) < p0.toInt)) := t35
    refine xi_zeq (tgt := 123) hx hb (rfl : Int32.toInt x33 = x33.toInt) dX11_count_109 (by decide) (fun c36 => ?_) (fun c36 => ?_)
    · refine lv_iconst (v := (-1)) hx hb dX11_count_123 (by decide) ?_
      exact x_ri hx hb hr hlk hQ (Nat.le_of_ble_eq_true rfl) (Nat.le_of_ble_eq_true rfl) hS dX11_count_124 (0, z3, z4, ar2, ar3, ar4) ⟨_, rfl⟩ hT.nil
    · refine lv_aload_n hx hb dX11_count_112 rfl (lv_at hl 0 rfl) ?_
      refine gX11_9 S hK hT ha kf_X11_30 dX11_count_113 (fun hk37 => ?_)
      refine lv_iload_n hx hb dX11_count_116 rfl (lv_at hl 1 rfl) ?_
      refine lv_iconst (v := 4) hx hb dX11_count_117 (by decide) ?_
      refine xi_isub hx hb (rfl : Int32.toInt p0 = p0.toInt) ((by decide) : Int32.toInt 4 = (4 : Int)) dX11_count_118 (fun x38 t39 => ?_)
      refine al_0 S hK hT hk37 ar_36 (by decide) (z_X11_count_4 p0.toInt x33.toInt x38.toInt c1 t35 c36 t39 (xr p0) (xr x33) (xr x38)) dX11_count_119 (fun x40 o41 => ?_)
      refine lv_goto (tgt := 124) hx hb dX11_count_120 (by decide) ?_
      exact x_ri hx hb hr hlk hQ (Nat.le_of_ble_eq_true rfl) (Nat.le_of_ble_eq_true rfl) hS dX11_count_124 (0, z3, z4, ar2, ar3, ar4) ⟨_, rfl⟩ hT.nil
  · refine lv_tableIn (off := 92) (tgt := 98) hx hb dX11_count_6 (by rw [c1]; decide) (by rw [c1]; decide) (by rw [c1]; rfl) (by decide) ?_
    refine lv_iload_n hx hb dX11_count_98 rfl (lv_at hl 1 rfl) ?_
    refine lv_i2l (v := p0.toInt64) hx hb dX11_count_99 rfl ?_
    refine lv_ldc2 (v := 4) hx hb S.2.2.2.1 (S.2.2.2.2 _ (List.mem_cons_of_mem _ kc_X11_401)) dX11_count_100 ?_
    refine lv_ldc2 (v := 7) hx hb S.2.2.2.1 (S.2.2.2.2 _ (List.mem_cons_of_mem _ kc_X11_403)) dX11_count_103 ?_
    refine x_clp (x_runS (As := [.long p0.toInt64, .long (4 : Int64), .long (7 : Int64)]) (rest := []) S (c_X11_in l E K F tl 0 z1 z2 z3 z4 z5 z6 z7 z8 z9 z10 z11 z12 z13 z14 z15 z16 z17 z18 z19 z20 ar0 ar1 ar2 ar3 ar4 ar5 ar6 ar7 ar8 ar9 ar10 H p0.toInt64 (4 : Int64) (7 : Int64) p0.toInt (4 : Int) (7 : Int) (xl_i2l (rfl : Int32.toInt p0 = p0.toInt)) (by decide) (by decide)) ms_X11_in km_X11_139 rfl rfl ⟨Nat.le_of_ble_eq_true rfl, Nat.le_of_ble_eq_true rfl⟩ hK (fun _ => XPh.blind) (fun U hU hW => XPh.at hK hz hS hT hU hW) rfl hl.1 (Nat.le_of_ble_eq_true rfl) dX11_count_106 ⟨Nat.le_of_ble_eq_true rfl, Nat.le_of_ble_eq_true rfl⟩) hS ?_
    rintro _ _ locs ⟨x42, rfl, b43, t44⟩ hS
    have t44 : (x42.toInt = 1 ∧ (4 : Int) ≤ p0.toInt ∧ p0.toInt ≤ (7 : Int)) ∨ (x42.toInt = 0 ∧ (p0.toInt < (4 : Int) ∨ (7 : Int) < p0.toInt)) := t44
    refine xi_zeq (tgt := 123) hx hb (rfl : Int32.toInt x42 = x42.toInt) dX11_count_109 (by decide) (fun c45 => ?_) (fun c45 => ?_)
    · refine lv_iconst (v := (-1)) hx hb dX11_count_123 (by decide) ?_
      exact x_ri hx hb hr hlk hQ (Nat.le_of_ble_eq_true rfl) (Nat.le_of_ble_eq_true rfl) hS dX11_count_124 (0, z3, z4, ar2, ar3, ar4) ⟨_, rfl⟩ hT.nil
    · refine lv_aload_n hx hb dX11_count_112 rfl (lv_at hl 0 rfl) ?_
      refine gX11_9 S hK hT ha kf_X11_30 dX11_count_113 (fun hk46 => ?_)
      refine lv_iload_n hx hb dX11_count_116 rfl (lv_at hl 1 rfl) ?_
      refine lv_iconst (v := 4) hx hb dX11_count_117 (by decide) ?_
      refine xi_isub hx hb (rfl : Int32.toInt p0 = p0.toInt) ((by decide) : Int32.toInt 4 = (4 : Int)) dX11_count_118 (fun x47 t48 => ?_)
      refine al_0 S hK hT hk46 ar_36 (by decide) (z_X11_count_5 p0.toInt x42.toInt x47.toInt c1 t44 c45 t48 (xr p0) (xr x42) (xr x47)) dX11_count_119 (fun x49 o50 => ?_)
      refine lv_goto (tgt := 124) hx hb dX11_count_120 (by decide) ?_
      exact x_ri hx hb hr hlk hQ (Nat.le_of_ble_eq_true rfl) (Nat.le_of_ble_eq_true rfl) hS dX11_count_124 (0, z3, z4, ar2, ar3, ar4) ⟨_, rfl⟩ hT.nil
  · refine lv_tableIn (off := 92) (tgt := 98) hx hb dX11_count_6 (by rw [c1]; decide) (by rw [c1]; decide) (by rw [c1]; rfl) (by decide) ?_
    refine lv_iload_n hx hb dX11_count_98 rfl (lv_at hl 1 rfl) ?_
    refine lv_i2l (v := p0.toInt64) hx hb dX11_count_99 rfl ?_
    refine lv_ldc2 (v := 4) hx hb S.2.2.2.1 (S.2.2.2.2 _ (List.mem_cons_of_mem _ kc_X11_401)) dX11_count_100 ?_
    refine lv_ldc2 (v := 7) hx hb S.2.2.2.1 (S.2.2.2.2 _ (List.mem_cons_of_mem _ kc_X11_403)) dX11_count_103 ?_
    refine x_clp (x_runS (As := [.long p0.toInt64, .long (4 : Int64), .long (7 : Int64)]) (rest := []) S (c_X11_in l E K F tl 0 z1 z2 z3 z4 z5 z6 z7 z8 z9 z10 z11 z12 z13 z14 z15 z16 z17 z18 z19 z20 ar0 ar1 ar2 ar3 ar4 ar5 ar6 ar7 ar8 ar9 ar10 H p0.toInt64 (4 : Int64) (7 : Int64) p0.toInt (4 : Int) (7 : Int) (xl_i2l (rfl : Int32.toInt p0 = p0.toInt)) (by decide) (by decide)) ms_X11_in km_X11_139 rfl rfl ⟨Nat.le_of_ble_eq_true rfl, Nat.le_of_ble_eq_true rfl⟩ hK (fun _ => XPh.blind) (fun U hU hW => XPh.at hK hz hS hT hU hW) rfl hl.1 (Nat.le_of_ble_eq_true rfl) dX11_count_106 ⟨Nat.le_of_ble_eq_true rfl, Nat.le_of_ble_eq_true rfl⟩) hS ?_
    rintro _ _ locs ⟨x51, rfl, b52, t53⟩ hS
    have t53 : (x51.toInt = 1 ∧ (4 : Int) ≤ p0.toInt ∧ p0.toInt ≤ (7 : Int)) ∨ (x51.toInt = 0 ∧ (p0.toInt < (4 : Int) ∨ (7 : Int) < p0.toInt)) := t53
    refine xi_zeq (tgt := 123) hx hb (rfl : Int32.toInt x51 = x51.toInt) dX11_count_109 (by decide) (fun c54 => ?_) (fun c54 => ?_)
    · refine lv_iconst (v := (-1)) hx hb dX11_count_123 (by decide) ?_
      exact x_ri hx hb hr hlk hQ (Nat.le_of_ble_eq_true rfl) (Nat.le_of_ble_eq_true rfl) hS dX11_count_124 (0, z3, z4, ar2, ar3, ar4) ⟨_, rfl⟩ hT.nil
    · refine lv_aload_n hx hb dX11_count_112 rfl (lv_at hl 0 rfl) ?_
      refine gX11_9 S hK hT ha kf_X11_30 dX11_count_113 (fun hk55 => ?_)
      refine lv_iload_n hx hb dX11_count_116 rfl (lv_at hl 1 rfl) ?_
      refine lv_iconst (v := 4) hx hb dX11_count_117 (by decide) ?_
      refine xi_isub hx hb (rfl : Int32.toInt p0 = p0.toInt) ((by decide) : Int32.toInt 4 = (4 : Int)) dX11_count_118 (fun x56 t57 => ?_)
      refine al_0 S hK hT hk55 ar_36 (by decide) (z_X11_count_6 p0.toInt x51.toInt x56.toInt c1 t53 c54 t57 (xr p0) (xr x51) (xr x56)) dX11_count_119 (fun x58 o59 => ?_)
      refine lv_goto (tgt := 124) hx hb dX11_count_120 (by decide) ?_
      exact x_ri hx hb hr hlk hQ (Nat.le_of_ble_eq_true rfl) (Nat.le_of_ble_eq_true rfl) hS dX11_count_124 (0, z3, z4, ar2, ar3, ar4) ⟨_, rfl⟩ hT.nil
  · refine lv_tableIn (off := 82) (tgt := 88) hx hb dX11_count_6 (by rw [c1]; decide) (by rw [c1]; decide) (by rw [c1]; rfl) (by decide) ?_
    refine lv_aload_n hx hb dX11_count_88 rfl (lv_at hl 0 rfl) ?_
    refine gX11_36 S hK hT ha kf_X11_245 dX11_count_89 (v := z8) rfl ?_
    exact x_ri hx hb hr hlk hQ (Nat.le_of_ble_eq_true rfl) (Nat.le_of_ble_eq_true rfl) hS dX11_count_92 (0, z3, z4, ar2, ar3, ar4) ⟨_, rfl⟩ hT.nil
  · refine lv_tableIn (off := 87) (tgt := 93) hx hb dX11_count_6 (by rw [c1]; decide) (by rw [c1]; decide) (by rw [c1]; rfl) (by decide) ?_
    refine lv_aload_n hx hb dX11_count_93 rfl (lv_at hl 0 rfl) ?_
    refine x_clp (x_runV (b := a) (As := []) (rest := []) S (c_X11_lateMany l E K F tl 0 z1 z2 z3 z4 z5 z6 z7 z8 z9 z10 z11 z12 z13 z14 z15 z16 z17 z18 z19 z20 ar0 ar1 ar2 ar3 ar4 ar5 ar6 ar7 ar8 ar9 ar10 H a ha hR) mv_X11_lateMany km_X11_398 rfl rfl ⟨Nat.le_of_ble_eq_true rfl, Nat.le_of_ble_eq_true rfl⟩ (rc_13 hK hT ha) hK (fun _ => XPh.blind) (fun U hU hW => XPh.at hK hz hS hT hU hW) rfl hl.1 (Nat.le_of_ble_eq_true rfl) dX11_count_94 ⟨Nat.le_of_ble_eq_true rfl, Nat.le_of_ble_eq_true rfl⟩) hS ?_
    rintro _ _ locs ⟨x60, rfl⟩ hS
    exact x_ri hx hb hr hlk hQ (Nat.le_of_ble_eq_true rfl) (Nat.le_of_ble_eq_true rfl) hS dX11_count_97 (0, z3, z4, ar2, ar3, ar4) ⟨_, rfl⟩ hT.nil
