theorem z_X11_begin_1 (a0 : Int) (h0 : (0 : Int) ≤ a0) (r0 : -2147483648 ≤ a0 ∧ a0 < 2147483648) : ¬ (2147483648 - a0 < ((0 : Nat) : Int)) := by omega
theorem z_X11_begin_2 (a0 : Int) (r0 : -2147483648 ≤ a0 ∧ a0 < 2147483648) : (0 : Int) = 0 ∨ (0 : Int) = a0 := by omega
theorem z_X11_begin_3 (a0 : Int) (a1 : Nat) (h0 : (0 : Int) ≤ a0) (h1 : 2147483648 - a0 < ((a1 + 1 : Nat) : Int)) (h2 : ¬ ((6 : Int) ≤ a0)) (r0 : -2147483648 ≤ a0 ∧ a0 < 2147483648) : 0 ≤ a0 ∧ a0 < ((6 : Nat) : Int) := by omega
theorem z_X11_begin_4 (a0 : Int) (a1 : Int) (a2 : Nat) (h0 : (0 : Int) ≤ a1) (h1 : 2147483648 - a1 < ((a2 + 1 : Nat) : Int)) (h2 : ¬ ((6 : Int) ≤ a1)) (h3 : a0 = a1 + 1 ∨ a1 + 1 < -2147483648 ∨ 2147483648 ≤ a1 + 1) (r0 : -2147483648 ≤ a0 ∧ a0 < 2147483648) (r1 : -2147483648 ≤ a1 ∧ a1 < 2147483648) : (0 : Int) ≤ a0 := by omega
theorem z_X11_begin_5 (a0 : Int) (a1 : Int) (a2 : Nat) (h0 : (0 : Int) ≤ a1) (h1 : 2147483648 - a1 < ((a2 + 1 : Nat) : Int)) (h2 : ¬ ((6 : Int) ≤ a1)) (h3 : a0 = a1 + 1 ∨ a1 + 1 < -2147483648 ∨ 2147483648 ≤ a1 + 1) (r0 : -2147483648 ≤ a0 ∧ a0 < 2147483648) (r1 : -2147483648 ≤ a1 ∧ a1 < 2147483648) : 2147483648 - a0 < ((a2 : Nat) : Int) := by omega
theorem z_X11_begin_6 (a0 : Int) (r0 : -2147483648 ≤ a0 ∧ a0 < 2147483648) : a0 = 0 ∨ a0 = a0 := by omega
abbrev rm_X11_begin : Room := { frames := 1, cells := 0, slots := 0, locals := 24 }
set_option maxHeartbeats 4000000 in
set_option maxRecDepth 100000 in
theorem c_X11_begin (l : Launch) (E : XE) (K : Nat → Nat) (F : Nat → Nat → Nat) (tl z0 z1 z2 z3 z4 z5 z6 z7 z8 z9 z10 z11 z12 z13 z14 z15 z16 z17 z18 z19 z20 : Int32) (ar0 ar1 ar2 ar3 ar4 ar5 ar6 ar7 ar8 ar9 ar10 : Nat → Int32) (a : Nat) (ha : K a = 13) : Met l yX11_begin (xw yX11_begin cX11_begin 2 (some .int)) rm_X11_begin (va_Pc [.ref a] (XP E K F (tl, [z0, z1, z2, z3, z4, z5, z6, z7, z8, z9, z10, z11, z12, z13, z14, z15, z16, z17, z18, z19, z20], [ar0, ar1, ar2, ar3, ar4, ar5, ar6, ar7, ar8, ar9, ar10]))) (XQ E (fun v (u : Int32 × Int32 × Int32) => ∃ r : Int32, v = .int r ∧ (u.2.2.toInt = 0 ∨ u.2.2.toInt = z2.toInt)) (fun u H => TW E K F (tl, [u.1, u.2.1, u.2.2, z3, z4, z5, z6, z7, z8, z9, z10, z11, z12, z13, z14, z15, z16, z17, z18, z19, z20], [ar0, ar1, ar2, ar3, ar4, ar5, ar6, ar7, ar8, ar9, ar10]) [] H)) 0 0 (xA E) := by
  refine x_enter (by decide) (Nat.le_of_ble_eq_true rfl) ?_
  intro p e s m args below meth c Q S hr hlk hnm hQ hP ls hl
  obtain ⟨hz, hK, hT⟩ := hP
  obtain ⟨hx, hb, -, -, -⟩ := id S
  obtain ⟨H, hT, hS, hgo⟩ : ∃ H : Heap, TW E K F (tl, [z0, z1, z2, z3, z4, z5, z6, z7, z8, z9, z10, z11, z12, z13, z14, z15, z16, z17, z18, z19, z20], [ar0, ar1, ar2, ar3, ar4, ar5, ar6, ar7, ar8, ar9, ar10]) [] H ∧ va_S (xA E) s.heap H [] ∧ H = s.heap := ⟨_, hT, va_S.rf, rfl⟩
  rw [← hgo]
  have hl : lv_has ls 2 [(0, .ref a)] := hl
  refine lv_aload_n hx hb dX11_begin_0 rfl (lv_at hl 0 rfl) ?_
  refine lv_iconst (v := 0) hx hb dX11_begin_1 (by decide) ?_
  refine pX11_0 (kq := []) (v := 0) S hK hT hS ha kf_X11_134 (Nat.le_of_ble_eq_true rfl) dX11_begin_2 (fun _ h => by cases h) (fun H locs hT hS => ?_)
  have hT : TW E K F (tl, [0, z1, z2, z3, z4, z5, z6, z7, z8, z9, z10, z11, z12, z13, z14, z15, z16, z17, z18, z19, z20], [ar0, ar1, ar2, ar3, ar4, ar5, ar6, ar7, ar8, ar9, ar10]) [] H := hT
  refine lv_aload_n hx hb dX11_begin_5 rfl (lv_at hl 0 rfl) ?_
  refine gX11_6 S hK hT ha kf_X11_206 dX11_begin_6 (v := z1) rfl ?_
  refine xi_zeq (tgt := 15) hx hb (rfl : Int32.toInt z1 = z1.toInt) dX11_begin_9 (by decide) (fun c1 => ?_) (fun c1 => ?_)
  · refine lv_aload_n hx hb dX11_begin_15 rfl (lv_at hl 0 rfl) ?_
    refine lv_iconst (v := 1) hx hb dX11_begin_16 (by decide) ?_
    refine pX11_6 (kq := []) (v := 1) S hK hT hS ha kf_X11_206 (Or.inr rfl) (Nat.le_of_ble_eq_true rfl) dX11_begin_17 (fun _ h => by cases h) (fun H locs hT hS => ?_)
    have hT : TW E K F (tl, [0, 1, z2, z3, z4, z5, z6, z7, z8, z9, z10, z11, z12, z13, z14, z15, z16, z17, z18, z19, z20], [ar0, ar1, ar2, ar3, ar4, ar5, ar6, ar7, ar8, ar9, ar10]) [] H := hT
    refine lv_aload_n hx hb dX11_begin_20 rfl (lv_at hl 0 rfl) ?_
    refine lv_iconst (v := 0) hx hb dX11_begin_21 (by decide) ?_
    refine pX11_7 (kq := []) (v := 0) S hK hT hS ha kf_X11_373 (Nat.le_of_ble_eq_true rfl) dX11_begin_22 (fun _ h => by cases h) (fun H locs hT hS => ?_)
    have hT : TW E K F (tl, [0, 1, 0, z3, z4, z5, z6, z7, z8, z9, z10, z11, z12, z13, z14, z15, z16, z17, z18, z19, z20], [ar0, ar1, ar2, ar3, ar4, ar5, ar6, ar7, ar8, ar9, ar10]) [] H := hT
    refine lv_aload_n hx hb dX11_begin_25 rfl (lv_at hl 0 rfl) ?_
    refine gX11_1 S hK hT ha kf_X11_9 dX11_begin_26 (fun hk2 => ?_)
    refine lv_iconst (v := 0) hx hb dX11_begin_29 (by decide) ?_
    refine lv_aload_n hx hb dX11_begin_30 rfl (lv_at hl 0 rfl) ?_
    refine gX11_2 S hK hT ha kf_X11_15 dX11_begin_31 (fun hk3 => ?_)
    refine lv_iconst (v := 0) hx hb dX11_begin_34 (by decide) ?_
    refine x_cv0 (x_runS (As := [.ref (F a 1), .int 0, .ref (F a 2), .int 0]) (rest := []) S (c_X11_copy_u l E K F tl 0 1 0 z3 z4 z5 z6 z7 z8 z9 z10 z11 z12 z13 z14 z15 z16 z17 z18 z19 z20 ar0 ar1 ar2 ar3 ar4 ar5 ar6 ar7 ar8 ar9 ar10 (F a 1) 0 (F a 2) 0 (XO.a hk2 (by decide)) (XOu.b hk3 (by decide))) ms_X11_copy km_X11_309 rfl rfl ⟨Nat.le_of_ble_eq_true rfl, Nat.le_of_ble_eq_true rfl⟩ hK (fun _ => XP.blind) (fun U hU hW => XP.at hK hz hS hT hU hW) rfl hl.1 (Nat.le_of_ble_eq_true rfl) dX11_begin_35 ⟨Nat.le_of_ble_eq_true rfl, Nat.le_of_ble_eq_true rfl⟩) hS ?_
    rintro _ H locs - hT hS
    refine lv_iconst (v := 0) hx hb dX11_begin_38 (by decide) ?_
    refine lv_istore_n (lv' := [(1, .int 0), (0, .ref a)]) hx hb dX11_begin_39 rfl hl (by decide) rfl (fun ls hl => ?_)
    have L40 : ∀ (N7 : Nat) (x6 : Int32) (H : Heap) (locs : List Loc) (ls : Array Slot), (0 : Int) ≤ x6.toInt → 2147483648 - x6.toInt < ((N7 : Nat) : Int) → TW E K F (tl, [0, 1, 0, z3, z4, z5, z6, z7, z8, z9, z10, z11, z12, z13, z14, z15, z16, z17, z18, z19, z20], [ar0, ar1, ar2, ar3, ar4, ar5, ar6, ar7, ar8, ar9, ar10]) [] H → va_S (xA E) s.heap H locs → lv_has ls 2 [(0, .ref a), (1, .int x6)] → W p l e rm_X11_begin s m args below meth c H locs 0 0 Q (F0 m 40 ls []) := by
      intro N7
      induction N7 with
      | zero =>
        intro x6 H locs ls hf8 hm9
        exact absurd hm9 (z_X11_begin_1 x6.toInt hf8 (xr x6))
      | succ N7 ih10 =>
        intro x6 H locs ls hf8 hm9 hT hS hl
        refine lv_iload_n hx hb dX11_begin_40 rfl (lv_at hl 1 rfl) ?_
        refine lv_bipush (v := 6) hx hb dX11_begin_41 (by decide) ?_
        refine xi_cge (tgt := 59) hx hb (rfl : Int32.toInt x6 = x6.toInt) ((by decide) : Int32.toInt 6 = (6 : Int)) dX11_begin_43 (by decide) (fun c11 => ?_) (fun c11 => ?_)
        · refine lv_aload_n hx hb dX11_begin_59 rfl (lv_at hl 0 rfl) ?_
          refine x_clp (x_runV (b := a) (As := []) (rest := []) S (c_X11_rowMany l E K F tl 0 1 0 z3 z4 z5 z6 z7 z8 z9 z10 z11 z12 z13 z14 z15 z16 z17 z18 z19 z20 ar0 ar1 ar2 ar3 ar4 ar5 ar6 ar7 ar8 ar9 ar10 H a ha) mv_X11_rowMany km_X11_376 rfl rfl ⟨Nat.le_of_ble_eq_true rfl, Nat.le_of_ble_eq_true rfl⟩ (rc_13 hK hT ha) hK (fun _ => XPh.blind) (fun U hU hW => XPh.at hK hz hS hT hU hW) rfl hl.1 (Nat.le_of_ble_eq_true rfl) dX11_begin_60 ⟨Nat.le_of_ble_eq_true rfl, Nat.le_of_ble_eq_true rfl⟩) hS ?_
          rintro _ _ locs ⟨x12, rfl⟩ hS
          exact x_ri hx hb hr hlk hQ (Nat.le_of_ble_eq_true rfl) (Nat.le_of_ble_eq_true rfl) hS dX11_begin_63 (0, 1, 0) ⟨_, rfl, (z_X11_begin_2 z2.toInt (xr z2))⟩ hT.nil
        · refine lv_aload_n hx hb dX11_begin_46 rfl (lv_at hl 0 rfl) ?_
          refine gX11_8 S hK hT ha kf_X11_27 dX11_begin_47 (fun hk14 => ?_)
          refine lv_iload_n hx hb dX11_begin_50 rfl (lv_at hl 1 rfl) ?_
          refine lv_iconst (v := 0) hx hb dX11_begin_51 (by decide) ?_
          refine as_0 S hK hT hS hk14 ar_35 aw_35 (by decide) (z_X11_begin_3 x6.toInt N7 hf8 hm9 c11 (xr x6)) dX11_begin_52 (fun H locs hT hS => ?_)
          refine xi_iinc (n := 1) (lv' := fun z9 => [(1, .int z9), (0, .ref a)]) (k := 1) hx hb (rfl : Int32.toInt x6 = x6.toInt) (by decide) dX11_begin_53 hl rfl (by decide) (fun _ => rfl) (fun x15 ls t16 hl => ?_)
          have hl : lv_has ls 2 [(1, .int x15), (0, .ref a)] := hl
          refine lv_goto (tgt := 40) hx hb dX11_begin_56 (by decide) ?_
          exact ih10 x15 _ _ _ (z_X11_begin_4 x15.toInt x6.toInt N7 hf8 hm9 c11 t16 (xr x15) (xr x6)) (z_X11_begin_5 x15.toInt x6.toInt N7 hf8 hm9 c11 t16 (xr x15) (xr x6)) hT.nil hS (lv_sub hl [1, 0] rfl)
    exact L40 4294967297 0 _ _ _ (by decide) (by decide) hT.nil hS (lv_sub hl [1, 0] rfl)
  · refine lv_bipush (v := (-3)) hx hb dX11_begin_12 (by decide) ?_
    exact x_ri hx hb hr hlk hQ (Nat.le_of_ble_eq_true rfl) (Nat.le_of_ble_eq_true rfl) hS dX11_begin_14 (0, z1, z2) ⟨_, rfl, (z_X11_begin_6 z2.toInt (xr z2))⟩ hT.nil

theorem z_X11_commit_1 (a0 : Int) (a1 : Nat) (h0 : 0 ≤ a0 ∧ a0 ≤ 2388 ∧ a0 ≤ ((a1 : Nat) : Int)) (r0 : -2147483648 ≤ a0 ∧ a0 < 2147483648) : 0 ≤ a0 ∧ a0 ≤ 2388 ∧ a0 ≤ ((a1 : Nat) : Int) := by omega
theorem z_X11_commit_2 (a0 : Int) (a1 : Int) (a2 : Nat) (h0 : 0 ≤ a0 ∧ a0 ≤ 2388 ∧ a0 ≤ ((a2 : Nat) : Int)) (h1 : a1 = -1 ∨ (0 ≤ a1 ∧ a1 < a0)) (r0 : -2147483648 ≤ a0 ∧ a0 < 2147483648) (r1 : -2147483648 ≤ a1 ∧ a1 < 2147483648) : 0 ≤ a0 ∧ a0 ≤ 2388 ∧ a0 ≤ ((a2 : Nat) : Int) := by omega
theorem z_X11_commit_3 (a0 : Int) (a1 : Int) (a2 : Nat) (h0 : 0 ≤ a0 ∧ a0 ≤ 2388 ∧ a0 ≤ ((a2 : Nat) : Int)) (h1 : a1 = -1 ∨ (0 ≤ a1 ∧ a1 < a0)) (r0 : -2147483648 ≤ a0 ∧ a0 < 2147483648) (r1 : -2147483648 ≤ a1 ∧ a1 < 2147483648) : a1 = -1 ∨ (0 ≤ a1 ∧ a1 < a0) := by omega
theorem z_X11_commit_4 (a0 : Int) (a1 : Int) (h0 : a1 = 0) (h1 : 0 ≤ a0 ∧ a0 ≤ 2400) (r0 : -2147483648 ≤ a0 ∧ a0 < 2147483648) (r1 : -2147483648 ≤ a1 ∧ a1 < 2147483648) : 0 ≤ a1 ∧ a1 ≤ 24 ∧ 0 ≤ a0 ∧ a0 ≤ 2400 := by omega
theorem z_X11_commit_5 (a0 : Int) (a1 : Int) (a2 : Nat) (h0 : 0 ≤ a0 ∧ a0 ≤ 2388 ∧ a0 ≤ ((a2 : Nat) : Int)) (h1 : a1 = -1 ∨ (0 ≤ a1 ∧ a1 < a0)) (h2 : ¬ (a1 = (-1 : Int))) (r0 : -2147483648 ≤ a0 ∧ a0 < 2147483648) (r1 : -2147483648 ≤ a1 ∧ a1 < 2147483648) : 0 ≤ a1 ∧ a1 < ((2400 : Nat) : Int) := by omega
theorem z_X11_commit_6 (a0 : Int) (a1 : Int) (a2 : Nat) (h0 : 0 ≤ a0 ∧ a0 ≤ 2388 ∧ a0 ≤ ((a2 : Nat) : Int)) (h1 : a1 = -1 ∨ (0 ≤ a1 ∧ a1 < a0)) (h2 : ¬ (a1 = (-1 : Int))) (r0 : -2147483648 ≤ a0 ∧ a0 < 2147483648) (r1 : -2147483648 ≤ a1 ∧ a1 < 2147483648) : 0 ≤ a1 ∧ a1 < ((a2 : Nat) : Int) := by omega
theorem z_X11_commit_7 (a0 : Int) (a1 : Int) (a2 : Int) (h0 : a0 = a2) (h1 : 0 ≤ a0 ∧ a0 ≤ 11 ∧ 0 ≤ a1) (r0 : -2147483648 ≤ a0 ∧ a0 < 2147483648) : 0 ≤ a0 ∧ a0 ≤ 11 := by omega
theorem z_X11_commit_8 (a0 : Int) (a1 : Int) (a2 : Nat) (h0 : 0 ≤ a0 ∧ a0 ≤ 2388 ∧ a0 ≤ ((a2 : Nat) : Int)) (h1 : a1 = -1 ∨ (0 ≤ a1 ∧ a1 < a0)) (h2 : ¬ (a1 = (-1 : Int))) (r0 : -2147483648 ≤ a0 ∧ a0 < 2147483648) (r1 : -2147483648 ≤ a1 ∧ a1 < 2147483648) : 0 ≤ a1 ∧ a1 < ((2400 : Nat) : Int) := by omega
theorem z_X11_commit_9 (a0 : Int) (a1 : Int) (a2 : Nat) (h0 : 0 ≤ a0 ∧ a0 ≤ 2388 ∧ a0 ≤ ((a2 : Nat) : Int)) (h1 : a1 = -1 ∨ (0 ≤ a1 ∧ a1 < a0)) (h2 : ¬ (a1 = (-1 : Int))) (r0 : -2147483648 ≤ a0 ∧ a0 < 2147483648) (r1 : -2147483648 ≤ a1 ∧ a1 < 2147483648) : 0 ≤ a1 ∧ a1 < ((a2 : Nat) : Int) := by omega
theorem z_X11_commit_10 (a0 : Int) (a1 : Int) (a2 : Int) (a3 : Int) (h0 : a0 = a3) (h1 : 0 ≤ a0 ∧ a0 ≤ 11 ∧ 0 ≤ a1) (h2 : -1 ≤ a1 ∧ a1 ≤ 5) (h3 : -1 ≤ a2 ∧ a2 ≤ 2) (h4 : a1 = 1 ∨ a1 = 3 ∨ a1 = 4 → 0 ≤ a2) (r0 : -2147483648 ≤ a0 ∧ a0 < 2147483648) : 0 ≤ a0 ∧ a0 ≤ 11 := by first | (clear h4; omega) | omega
theorem z_X11_commit_11 (a0 : Int) (a1 : Int) (h0 : 0 ≤ a0 ∧ a0 ≤ 2400) (h1 : 0 ≤ a1 ∧ a1 ≤ 24) (r0 : -2147483648 ≤ a0 ∧ a0 < 2147483648) (r1 : -2147483648 ≤ a1 ∧ a1 < 2147483648) : 0 ≤ a1 ∧ a1 ≤ 24 ∧ 0 ≤ a0 ∧ a0 ≤ 2400 := by omega
theorem z_X11_commit_12 (a0 : Int) (a1 : Int) (h0 : 0 ≤ a1 ∧ a1 ≤ 2400) (h1 : a0 = 0) (r0 : -2147483648 ≤ a0 ∧ a0 < 2147483648) (r1 : -2147483648 ≤ a1 ∧ a1 < 2147483648) : 0 ≤ a0 ∧ a0 ≤ 24 ∧ 0 ≤ a1 ∧ a1 ≤ 2400 := by omega
abbrev rm_X11_commit : Room := { frames := 5, cells := 0, slots := 0, locals := 125 }
set_option maxHeartbeats 4000000 in
set_option maxRecDepth 100000 in
theorem c_X11_commit (l : Launch) (E : XE) (K : Nat → Nat) (F : Nat → Nat → Nat) (tl z0 z1 z2 z3 z4 z5 z6 z7 z8 z9 z10 z11 z12 z13 z14 z15 z16 z17 z18 z19 z20 : Int32) (ar0 ar1 ar2 ar3 ar4 ar5 ar6 ar7 ar8 ar9 ar10 : Nat → Int32) (a : Nat) (ha : K a = 13) (hR : RV ar1) (e0 : 0 ≤ z7.toInt ∧ z7.toInt ≤ 24) (e1 : 0 ≤ z12.toInt ∧ z12.toInt ≤ 2400) : Met l yX11_commit (xw yX11_commit cX11_commit 1 (some .int)) rm_X11_commit (va_Pc [.ref a] (XP E K F (tl, [z0, z1, z2, z3, z4, z5, z6, z7, z8, z9, z10, z11, z12, z13, z14, z15, z16, z17, z18, z19, z20], [ar0, ar1, ar2, ar3, ar4, ar5, ar6, ar7, ar8, ar9, ar10]))) (XQ E (fun v (u : Int32 × Int32 × Int32 × Int32 × Int32 × Int32 × Int32 × Int32 × Int32 × Int32 × (Nat → Int32) × (Nat → Int32) × (Nat → Int32) × (Nat → Int32)) => ∃ r : Int32, v = .int r ∧ (0 ≤ u.2.2.2.2.2.2.1.toInt ∧ u.2.2.2.2.2.2.1.toInt ≤ 24 ∧ 0 ≤ u.2.2.2.2.2.2.2.1.toInt ∧ u.2.2.2.2.2.2.2.1.toInt ≤ 2400)) (fun u H => TW E K F (tl, [u.1, u.2.1, z2, u.2.2.1, u.2.2.2.1, u.2.2.2.2.1, u.2.2.2.2.2.1, u.2.2.2.2.2.2.1, z8, z9, z10, z11, u.2.2.2.2.2.2.2.1, u.2.2.2.2.2.2.2.2.1, z14, u.2.2.2.2.2.2.2.2.2.1, z16, z17, z18, z19, z20], [u.2.2.2.2.2.2.2.2.2.2.1, ar1, u.2.2.2.2.2.2.2.2.2.2.2.1, u.2.2.2.2.2.2.2.2.2.2.2.2.1, u.2.2.2.2.2.2.2.2.2.2.2.2.2, ar5, ar6, ar7, ar8, ar9, ar10]) [] H)) 0 0 (xA E) := by
  refine x_enter (by decide) (Nat.le_of_ble_eq_true rfl) ?_
  intro p e s m args below meth c Q S hr hlk hnm hQ hP ls hl
  obtain ⟨hz, hK, hT⟩ := hP
  obtain ⟨hx, hb, -, -, -⟩ := id S
  obtain ⟨H, hT, hS, hgo⟩ : ∃ H : Heap, TW E K F (tl, [z0, z1, z2, z3, z4, z5, z6, z7, z8, z9, z10, z11, z12, z13, z14, z15, z16, z17, z18, z19, z20], [ar0, ar1, ar2, ar3, ar4, ar5, ar6, ar7, ar8, ar9, ar10]) [] H ∧ va_S (xA E) s.heap H [] ∧ H = s.heap := ⟨_, hT, va_S.rf, rfl⟩
  rw [← hgo]
  have hl : lv_has ls 1 [(0, .ref a)] := hl
  refine lv_aload_n hx hb dX11_commit_0 rfl (lv_at hl 0 rfl) ?_
  refine lv_iconst (v := 0) hx hb dX11_commit_1 (by decide) ?_
  refine pX11_0 (kq := []) (v := 0) S hK hT hS ha kf_X11_134 (Nat.le_of_ble_eq_true rfl) dX11_commit_2 (fun _ h => by cases h) (fun H locs hT hS => ?_)
  have hT : TW E K F (tl, [0, z1, z2, z3, z4, z5, z6, z7, z8, z9, z10, z11, z12, z13, z14, z15, z16, z17, z18, z19, z20], [ar0, ar1, ar2, ar3, ar4, ar5, ar6, ar7, ar8, ar9, ar10]) [] H := hT
  refine lv_aload_n hx hb dX11_commit_5 rfl (lv_at hl 0 rfl) ?_
  refine x_cv0 (x_runV (b := a) (As := []) (rest := []) S (c_X11_nothing l E K F tl 0 z1 z2 z3 z4 z5 z6 z7 z8 z9 z10 z11 z12 z13 z14 z15 z16 z17 z18 z19 z20 ar0 ar1 ar2 ar3 ar4 ar5 ar6 ar7 ar8 ar9 ar10 a ha) mv_X11_nothing km_X11_231 rfl rfl ⟨Nat.le_of_ble_eq_true rfl, Nat.le_of_ble_eq_true rfl⟩ (rc_13 hK hT ha) hK (fun _ => XP.blind) (fun U hU hW => XP.at hK hz hS hT hU hW) rfl hl.1 (Nat.le_of_ble_eq_true rfl) dX11_commit_6 ⟨Nat.le_of_ble_eq_true rfl, Nat.le_of_ble_eq_true rfl⟩) hS ?_
  rintro ⟨u1, u2, u3⟩ H locs t4 hT hS
  have hT : TW E K F (tl, [0, z1, z2, z3, z4, u1, u2, u3, z8, z9, z10, z11, z12, z13, z14, z15, z16, z17, z18, z19, z20], [ar0, ar1, ar2, ar3, ar4, ar5, ar6, ar7, ar8, ar9, ar10]) [] H := hT
  have t4 : u3.toInt = 0 := t4
  refine lv_aload_n hx hb dX11_commit_9 rfl (lv_at hl 0 rfl) ?_
  refine gX11_6 S hK hT ha kf_X11_206 dX11_commit_10 (v := z1) rfl ?_
  refine xi_zne (tgt := 19) hx hb (rfl : Int32.toInt z1 = z1.toInt) dX11_commit_13 (by decide) (fun c7 => ?_) (fun c7 => ?_)
  · refine lv_aload_n hx hb dX11_commit_19 rfl (lv_at hl 0 rfl) ?_
    refine x_cv0 (x_runV (b := a) (As := []) (rest := []) S (c_X11_findQueue l E K F tl 0 z1 z2 z3 z4 u1 u2 u3 z8 z9 z10 z11 z12 z13 z14 z15 z16 z17 z18 z19 z20 ar0 ar1 ar2 ar3 ar4 ar5 ar6 ar7 ar8 ar9 ar10 a ha hR) mv_X11_findQueue km_X11_218 rfl rfl ⟨Nat.le_of_ble_eq_true rfl, Nat.le_of_ble_eq_true rfl⟩ (rc_13 hK hT ha) hK (fun _ => XP.blind) (fun U hU hW => XP.at hK hz hS hT hU hW) rfl hl.1 (Nat.le_of_ble_eq_true rfl) dX11_commit_20 ⟨Nat.le_of_ble_eq_true rfl, Nat.le_of_ble_eq_true rfl⟩) hS ?_
    rintro ⟨u8, u9, f10, f11, f12⟩ H locs t13 hT hS
    have hT : TW E K F (tl, [0, z1, z2, u8, u9, u1, u2, u3, z8, z9, z10, z11, z12, z13, z14, z15, z16, z17, z18, z19, z20], [ar0, ar1, f10, f11, f12, ar5, ar6, ar7, ar8, ar9, ar10]) [] H := hT
    have t13 : 0 ≤ u9.toInt ∧ u9.toInt ≤ 2388 ∧ u9.toInt ≤ (((fV ar1 f11 f12) : Nat) : Int) := t13
    refine lv_aload_n hx hb dX11_commit_23 rfl (lv_at hl 0 rfl) ?_
    refine lv_aload_n hx hb dX11_commit_24 rfl (lv_at hl 0 rfl) ?_
    refine x_clp (x_runV (b := a) (As := []) (rest := [.ref a]) S (c_X11_firstFailing l E K F tl 0 z1 z2 u8 u9 u1 u2 u3 z8 z9 z10 z11 z12 z13 z14 z15 z16 z17 z18 z19 z20 ar0 ar1 f10 f11 f12 ar5 ar6 ar7 ar8 ar9 ar10 H a ha hR (z_X11_commit_1 u9.toInt (fV ar1 f11 f12) t13 (xr u9))) mv_X11_firstFailing km_X11_313 rfl rfl ⟨Nat.le_of_ble_eq_true rfl, Nat.le_of_ble_eq_true rfl⟩ (rc_13 hK hT ha) hK (fun _ => XPh.blind) (fun U hU hW => XPh.at hK hz hS hT hU hW) rfl hl.1 (Nat.le_of_ble_eq_true rfl) dX11_commit_25 ⟨Nat.le_of_ble_eq_true rfl, Nat.le_of_ble_eq_true rfl⟩) hS ?_
    rintro _ _ locs ⟨x17, rfl, t16⟩ hS
    have t16 : x17.toInt = -1 ∨ (0 ≤ x17.toInt ∧ x17.toInt < u9.toInt) := t16
    refine pX11_46 (kq := []) (v := x17) S hK hT hS ha kf_X11_322 (Nat.le_of_ble_eq_true rfl) dX11_commit_28 (fun _ h => by cases h) (fun H locs hT hS => ?_)
    have hT : TW E K F (tl, [0, z1, z2, u8, u9, u1, u2, u3, z8, z9, z10, z11, z12, z13, z14, x17, z16, z17, z18, z19, z20], [ar0, ar1, f10, f11, f12, ar5, ar6, ar7, ar8, ar9, ar10]) [] H := hT
    refine lv_aload_n hx hb dX11_commit_31 rfl (lv_at hl 0 rfl) ?_
    refine x_cv0 (x_runV (b := a) (As := []) (rest := []) S (c_X11_takeAsked l E K F tl 0 z1 z2 u8 u9 u1 u2 u3 z8 z9 z10 z11 z12 z13 z14 x17 z16 z17 z18 z19 z20 ar0 ar1 f10 f11 f12 ar5 ar6 ar7 ar8 ar9 ar10 a ha hR (z_X11_commit_2 u9.toInt x17.toInt (fV ar1 f11 f12) t13 t16 (xr u9) (xr x17)) (z_X11_commit_3 u9.toInt x17.toInt (fV ar1 f11 f12) t13 t16 (xr u9) (xr x17))) mv_X11_takeAsked km_X11_337 rfl rfl ⟨Nat.le_of_ble_eq_true rfl, Nat.le_of_ble_eq_true rfl⟩ (rc_13 hK hT ha) hK (fun _ => XP.blind) (fun U hU hW => XP.at hK hz hS hT hU hW) rfl hl.1 (Nat.le_of_ble_eq_true rfl) dX11_commit_32 ⟨Nat.le_of_ble_eq_true rfl, Nat.le_of_ble_eq_true rfl⟩) hS ?_
    rintro ⟨u19, u20⟩ H locs t21 hT hS
    have hT : TW E K F (tl, [0, z1, z2, u8, u9, u1, u2, u3, z8, z9, z10, z11, u19, u20, z14, x17, z16, z17, z18, z19, z20], [ar0, ar1, f10, f11, f12, ar5, ar6, ar7, ar8, ar9, ar10]) [] H := hT
    have t21 : 0 ≤ u19.toInt ∧ u19.toInt ≤ 2400 := t21
    refine lv_aload_n hx hb dX11_commit_35 rfl (lv_at hl 0 rfl) ?_
    refine lv_iconst (v := 0) hx hb dX11_commit_36 (by decide) ?_
    refine pX11_6 (kq := []) (v := 0) S hK hT hS ha kf_X11_206 (Or.inl rfl) (Nat.le_of_ble_eq_true rfl) dX11_commit_37 (fun _ h => by cases h) (fun H locs hT hS => ?_)
    have hT : TW E K F (tl, [0, 0, z2, u8, u9, u1, u2, u3, z8, z9, z10, z11, u19, u20, z14, x17, z16, z17, z18, z19, z20], [ar0, ar1, f10, f11, f12, ar5, ar6, ar7, ar8, ar9, ar10]) [] H := hT
    refine lv_aload_n hx hb dX11_commit_40 rfl (lv_at hl 0 rfl) ?_
    refine gX11_46 S hK hT ha kf_X11_322 dX11_commit_41 (v := x17) rfl ?_
    refine lv_iconst (v := (-1)) hx hb dX11_commit_44 (by decide) ?_
    refine xi_ceq (tgt := 96) hx hb (rfl : Int32.toInt x17 = x17.toInt) ((by decide) : Int32.toInt (-1) = (-1 : Int)) dX11_commit_45 (by decide) (fun c24 => ?_) (fun c24 => ?_)
    · refine lv_aload_n hx hb dX11_commit_96 rfl (lv_at hl 0 rfl) ?_
      refine gX11_9 S hK hT ha kf_X11_30 dX11_commit_97 (fun hk25 => ?_)
      refine lv_iconst (v := 1) hx hb dX11_commit_100 (by decide) ?_
      refine lv_dup2_11 hx hb dX11_commit_101 rfl rfl ?_
      refine al_0 S hK hT hk25 ar_36 (by decide) (by decide) dX11_commit_102 (fun x26 o27 => ?_)
      refine lv_iconst (v := 1) hx hb dX11_commit_103 (by decide) ?_
      refine xi_iadd hx hb (rfl : Int32.toInt x26 = x26.toInt) ((by decide) : Int32.toInt 1 = (1 : Int)) dX11_commit_104 (fun x28 t29 => ?_)
      refine as_0 S hK hT hS hk25 ar_36 aw_36 (by decide) (by decide) dX11_commit_105 (fun H locs hT hS => ?_)
      refine lv_aload_n hx hb dX11_commit_106 rfl (lv_at hl 0 rfl) ?_
      refine gX11_43 S hK hT ha kf_X11_340 dX11_commit_107 (v := u19) rfl ?_
      exact x_ri hx hb hr hlk hQ (Nat.le_of_ble_eq_true rfl) (Nat.le_of_ble_eq_true rfl) hS dX11_commit_110 (0, 0, u8, u9, u1, u2, u3, u19, u20, x17, ar0, f10, f11, f12) ⟨_, rfl, (z_X11_commit_4 u19.toInt u3.toInt t4 t21 (xr u19) (xr u3))⟩ hT.nil
    · refine lv_aload_n hx hb dX11_commit_48 rfl (lv_at hl 0 rfl) ?_
      refine lv_aload_n hx hb dX11_commit_49 rfl (lv_at hl 0 rfl) ?_
      refine gX11_17 S hK hT ha kf_X11_51 dX11_commit_50 (fun hk30 => ?_)
      refine lv_aload_n hx hb dX11_commit_53 rfl (lv_at hl 0 rfl) ?_
      refine gX11_46 S hK hT ha kf_X11_322 dX11_commit_54 (v := x17) rfl ?_
      refine tld_0 S hK hT hk30 (at_43 (f := f11) rfl) (by decide) (z_X11_commit_5 u9.toInt x17.toInt (fV ar1 f11 f12) t13 t16 c24 (xr u9) (xr x17)) dX11_commit_57 (fun x31 w32 o33 => ?_)
      have v35 : 0 ≤ x31.toInt ∧ x31.toInt ≤ 11 ∧ 0 ≤ (aI ar1 (10 * x31.toInt + (0 : Int))) := fV_rule (f4 := f12) w32 (z_X11_commit_6 u9.toInt x17.toInt (fV ar1 f11 f12) t13 t16 c24 (xr u9) (xr x17))
      have v36 : (-1 ≤ (aI ar1 (10 * x31.toInt + (0 : Int))) ∧ (aI ar1 (10 * x31.toInt + (0 : Int))) ≤ 5) ∧ (0 ≤ (aI ar1 (10 * x31.toInt + (1 : Int))) ∧ (aI ar1 (10 * x31.toInt + (1 : Int))) ≤ 2) ∧ (0 ≤ (aI ar1 (10 * x31.toInt + (2 : Int))) ∧ (aI ar1 (10 * x31.toInt + (2 : Int))) ≤ 2) ∧ (-1 ≤ (aI ar1 (10 * x31.toInt + (3 : Int))) ∧ (aI ar1 (10 * x31.toInt + (3 : Int))) ≤ 2) ∧ ((aI ar1 (10 * x31.toInt + (0 : Int))) = 1 ∨ (aI ar1 (10 * x31.toInt + (0 : Int))) = 3 ∨ (aI ar1 (10 * x31.toInt + (0 : Int))) = 4 → 0 ≤ (aI ar1 (10 * x31.toInt + (3 : Int)))) := RV.row hR (z_X11_commit_7 x31.toInt (aI ar1 (10 * x31.toInt + (0 : Int))) (aI f11 x17.toInt) w32 v35 (xr x31))
      refine lv_aload_n hx hb dX11_commit_58 rfl (lv_at hl 0 rfl) ?_
      refine gX11_18 S hK hT ha kf_X11_54 dX11_commit_59 (fun hk37 => ?_)
      refine lv_aload_n hx hb dX11_commit_62 rfl (lv_at hl 0 rfl) ?_
      refine gX11_46 S hK hT ha kf_X11_322 dX11_commit_63 (v := x17) rfl ?_
      refine tld_0 S hK hT hk37 (at_44 (f := f12) rfl) (by decide) (z_X11_commit_8 u9.toInt x17.toInt (fV ar1 f11 f12) t13 t16 c24 (xr u9) (xr x17)) dX11_commit_66 (fun x38 w39 o40 => ?_)
      have v42 : -99 ≤ x38.toInt ∧ x38.toInt ≤ 99 ∧ (aF ar1 x31.toInt) ≤ x38.toInt ∧ x38.toInt ≤ (aL ar1 x31.toInt) := fV_sub w32 w39 (z_X11_commit_9 u9.toInt x17.toInt (fV ar1 f11 f12) t13 t16 c24 (xr u9) (xr x17))
      refine x_cv0 (x_runV (b := a) (As := [.int x31, .int x38]) (rest := []) S (c_X11_failed l E K F tl 0 0 z2 u8 u9 u1 u2 u3 z8 z9 z10 z11 u19 u20 z14 x17 z16 z17 z18 z19 z20 ar0 ar1 f10 f11 f12 ar5 ar6 ar7 ar8 ar9 ar10 a x31 x38 ha (z_X11_commit_10 x31.toInt (aI ar1 (10 * x31.toInt + (0 : Int))) (aI ar1 (10 * x31.toInt + (3 : Int))) (aI f11 x17.toInt) w32 v35 (v36).1 (v36).2.2.2.1 (v36).2.2.2.2 (xr x31))) mv_X11_failed km_X11_299 rfl rfl ⟨Nat.le_of_ble_eq_true rfl, Nat.le_of_ble_eq_true rfl⟩ (rc_13 hK hT ha) hK (fun _ => XP.blind) (fun U hU hW => XP.at hK hz hS hT hU hW) rfl hl.1 (Nat.le_of_ble_eq_true rfl) dX11_commit_67 ⟨Nat.le_of_ble_eq_true rfl, Nat.le_of_ble_eq_true rfl⟩) hS ?_
      rintro ⟨u43, u44, u45⟩ H locs t46 hT hS
      have hT : TW E K F (tl, [0, 0, z2, u8, u9, u43, u44, u45, z8, z9, z10, z11, u19, u20, z14, x17, z16, z17, z18, z19, z20], [ar0, ar1, f10, f11, f12, ar5, ar6, ar7, ar8, ar9, ar10]) [] H := hT
      have t46 : 0 ≤ u45.toInt ∧ u45.toInt ≤ 24 := t46
      refine lv_aload_n hx hb dX11_commit_70 rfl (lv_at hl 0 rfl) ?_
      refine gX11_2 S hK hT ha kf_X11_15 dX11_commit_71 (fun hk49 => ?_)
      refine lv_iconst (v := 0) hx hb dX11_commit_74 (by decide) ?_
      refine lv_aload_n hx hb dX11_commit_75 rfl (lv_at hl 0 rfl) ?_
      refine gX11_1 S hK hT ha kf_X11_9 dX11_commit_76 (fun hk50 => ?_)
      refine lv_iconst (v := 0) hx hb dX11_commit_79 (by decide) ?_
      refine x_cv0 (x_runS (As := [.ref (F a 2), .int 0, .ref (F a 1), .int 0]) (rest := []) S (c_X11_copy_r l E K F tl 0 0 z2 u8 u9 u43 u44 u45 z8 z9 z10 z11 u19 u20 z14 x17 z16 z17 z18 z19 z20 ar0 ar1 f10 f11 f12 ar5 ar6 ar7 ar8 ar9 ar10 (F a 2) 0 (F a 1) 0 (XO.b hk49 (by decide)) hk50 (by decide)) ms_X11_copy km_X11_309 rfl rfl ⟨Nat.le_of_ble_eq_true rfl, Nat.le_of_ble_eq_true rfl⟩ hK (fun _ => XP.blind) (fun U hU hW => XP.at hK hz hS hT hU hW) rfl hl.1 (Nat.le_of_ble_eq_true rfl) dX11_commit_80 ⟨Nat.le_of_ble_eq_true rfl, Nat.le_of_ble_eq_true rfl⟩) hS ?_
      rintro f51 H locs - hT hS
      have hT : TW E K F (tl, [0, 0, z2, u8, u9, u43, u44, u45, z8, z9, z10, z11, u19, u20, z14, x17, z16, z17, z18, z19, z20], [f51, ar1, f10, f11, f12, ar5, ar6, ar7, ar8, ar9, ar10]) [] H := hT
      refine lv_aload_n hx hb dX11_commit_83 rfl (lv_at hl 0 rfl) ?_
      refine gX11_9 S hK hT ha kf_X11_30 dX11_commit_84 (fun hk54 => ?_)
      refine lv_iconst (v := 2) hx hb dX11_commit_87 (by decide) ?_
      refine lv_dup2_11 hx hb dX11_commit_88 rfl rfl ?_
      refine al_0 S hK hT hk54 ar_36 (by decide) (by decide) dX11_commit_89 (fun x55 o56 => ?_)
      refine lv_iconst (v := 1) hx hb dX11_commit_90 (by decide) ?_
      refine xi_iadd hx hb (rfl : Int32.toInt x55 = x55.toInt) ((by decide) : Int32.toInt 1 = (1 : Int)) dX11_commit_91 (fun x57 t58 => ?_)
      refine as_0 S hK hT hS hk54 ar_36 aw_36 (by decide) (by decide) dX11_commit_92 (fun H locs hT hS => ?_)
      refine lv_bipush (v := (-5)) hx hb dX11_commit_93 (by decide) ?_
      exact x_ri hx hb hr hlk hQ (Nat.le_of_ble_eq_true rfl) (Nat.le_of_ble_eq_true rfl) hS dX11_commit_95 (0, 0, u8, u9, u43, u44, u45, u19, u20, x17, f51, f10, f11, f12) ⟨_, rfl, (z_X11_commit_11 u19.toInt u45.toInt t21 t46 (xr u19) (xr u45))⟩ hT.nil
  · refine lv_bipush (v := (-3)) hx hb dX11_commit_16 (by decide) ?_
    exact x_ri hx hb hr hlk hQ (Nat.le_of_ble_eq_true rfl) (Nat.le_of_ble_eq_true rfl) hS dX11_commit_18 (0, z1, z3, z4, u1, u2, u3, z12, z13, z15, ar0, ar2, ar3, ar4) ⟨_, rfl, (z_X11_commit_12 u3.toInt z12.toInt e1 t4 (xr u3) (xr z12))⟩ hT.nil

abbrev rm_X11_abort : Room := { frames := 6, cells := 0, slots := 0, locals := 142 }
set_option maxHeartbeats 4000000 in
set_option maxRecDepth 100000 in
theorem c_X11_abort (l : Launch) (E : XE) (K : Nat → Nat) (F : Nat → Nat → Nat) (tl z0 z1 z2 z3 z4 z5 z6 z7 z8 z9 z10 z11 z12 z13 z14 z15 z16 z17 z18 z19 z20 : Int32) (ar0 ar1 ar2 ar3 ar4 ar5 ar6 ar7 ar8 ar9 ar10 : Nat → Int32) (a : Nat) (ha : K a = 13) (hR : RV ar1) : Met l yX11_abort (xw yX11_abort cX11_abort 2 (some .int)) rm_X11_abort (va_Pc [.ref a] (XP E K F (tl, [z0, z1, z2, z3, z4, z5, z6, z7, z8, z9, z10, z11, z12, z13, z14, z15, z16, z17, z18, z19, z20], [ar0, ar1, ar2, ar3, ar4, ar5, ar6, ar7, ar8, ar9, ar10]))) (XQ E (fun v (u : Int32 × Int32 × Int32 × Int32 × (Nat → Int32) × (Nat → Int32) × (Nat → Int32) × (Nat → Int32)) => ∃ r : Int32, v = .int r) (fun u H => TW E K F (tl, [u.1, u.2.1, z2, u.2.2.1, u.2.2.2.1, z5, z6, z7, z8, z9, z10, z11, z12, z13, z14, z15, z16, z17, z18, z19, z20], [u.2.2.2.2.1, ar1, u.2.2.2.2.2.1, u.2.2.2.2.2.2.1, u.2.2.2.2.2.2.2, ar5, ar6, ar7, ar8, ar9, ar10]) [] H)) 0 0 (xA E) := by
  refine x_enter (by decide) (Nat.le_of_ble_eq_true rfl) ?_
  intro p e s m args below meth c Q S hr hlk hnm hQ hP ls hl
  obtain ⟨hz, hK, hT⟩ := hP
  obtain ⟨hx, hb, -, -, -⟩ := id S
  obtain ⟨H, hT, hS, hgo⟩ : ∃ H : Heap, TW E K F (tl, [z0, z1, z2, z3, z4, z5, z6, z7, z8, z9, z10, z11, z12, z13, z14, z15, z16, z17, z18, z19, z20], [ar0, ar1, ar2, ar3, ar4, ar5, ar6, ar7, ar8, ar9, ar10]) [] H ∧ va_S (xA E) s.heap H [] ∧ H = s.heap := ⟨_, hT, va_S.rf, rfl⟩
  rw [← hgo]
  have hl : lv_has ls 2 [(0, .ref a)] := hl
  refine lv_aload_n hx hb dX11_abort_0 rfl (lv_at hl 0 rfl) ?_
  refine lv_iconst (v := 0) hx hb dX11_abort_1 (by decide) ?_
  refine pX11_0 (kq := []) (v := 0) S hK hT hS ha kf_X11_134 (Nat.le_of_ble_eq_true rfl) dX11_abort_2 (fun _ h => by cases h) (fun H locs hT hS => ?_)
  have hT : TW E K F (tl, [0, z1, z2, z3, z4, z5, z6, z7, z8, z9, z10, z11, z12, z13, z14, z15, z16, z17, z18, z19, z20], [ar0, ar1, ar2, ar3, ar4, ar5, ar6, ar7, ar8, ar9, ar10]) [] H := hT
  refine lv_aload_n hx hb dX11_abort_5 rfl (lv_at hl 0 rfl) ?_
  refine gX11_6 S hK hT ha kf_X11_206 dX11_abort_6 (v := z1) rfl ?_
  refine xi_zne (tgt := 15) hx hb (rfl : Int32.toInt z1 = z1.toInt) dX11_abort_9 (by decide) (fun c1 => ?_) (fun c1 => ?_)
  · refine lv_aload_n hx hb dX11_abort_15 rfl (lv_at hl 0 rfl) ?_
    refine x_cl0 (x_runV (b := a) (As := []) (rest := []) S (c_X11_queueMany l E K F tl 0 z1 z2 z3 z4 z5 z6 z7 z8 z9 z10 z11 z12 z13 z14 z15 z16 z17 z18 z19 z20 ar0 ar1 ar2 ar3 ar4 ar5 ar6 ar7 ar8 ar9 ar10 a ha hR) mv_X11_queueMany km_X11_379 rfl rfl ⟨Nat.le_of_ble_eq_true rfl, Nat.le_of_ble_eq_true rfl⟩ (rc_13 hK hT ha) hK (fun _ => XP.blind) (fun U hU hW => XP.at hK hz hS hT hU hW) rfl hl.1 (Nat.le_of_ble_eq_true rfl) dX11_abort_16 ⟨Nat.le_of_ble_eq_true rfl, Nat.le_of_ble_eq_true rfl⟩) hS ?_
    rintro _ ⟨u2, u3, f4, f5, f6⟩ H locs ⟨x8, rfl, t7⟩ hT hS
    have hT : TW E K F (tl, [0, z1, z2, u2, u3, z5, z6, z7, z8, z9, z10, z11, z12, z13, z14, z15, z16, z17, z18, z19, z20], [ar0, ar1, f4, f5, f6, ar5, ar6, ar7, ar8, ar9, ar10]) [] H := hT
    have t7 : 0 ≤ u3.toInt ∧ u3.toInt ≤ 2388 ∧ u3.toInt ≤ (((fV ar1 f5 f6) : Nat) : Int) := t7
    refine lv_istore_n (lv' := [(1, .int x8), (0, .ref a)]) hx hb dX11_abort_19 rfl hl (by decide) rfl (fun ls hl => ?_)
    refine lv_aload_n hx hb dX11_abort_20 rfl (lv_at hl 1 rfl) ?_
    refine gX11_2 S hK hT ha kf_X11_15 dX11_abort_21 (fun hk10 => ?_)
    refine lv_iconst (v := 0) hx hb dX11_abort_24 (by decide) ?_
    refine lv_aload_n hx hb dX11_abort_25 rfl (lv_at hl 1 rfl) ?_
    refine gX11_1 S hK hT ha kf_X11_9 dX11_abort_26 (fun hk11 => ?_)
    refine lv_iconst (v := 0) hx hb dX11_abort_29 (by decide) ?_
    refine x_cv0 (x_runS (As := [.ref (F a 2), .int 0, .ref (F a 1), .int 0]) (rest := []) S (c_X11_copy_r l E K F tl 0 z1 z2 u2 u3 z5 z6 z7 z8 z9 z10 z11 z12 z13 z14 z15 z16 z17 z18 z19 z20 ar0 ar1 f4 f5 f6 ar5 ar6 ar7 ar8 ar9 ar10 (F a 2) 0 (F a 1) 0 (XO.b hk10 (by decide)) hk11 (by decide)) ms_X11_copy km_X11_309 rfl rfl ⟨Nat.le_of_ble_eq_true rfl, Nat.le_of_ble_eq_true rfl⟩ hK (fun _ => XP.blind) (fun U hU hW => XP.at hK hz hS hT hU hW) rfl hl.1 (Nat.le_of_ble_eq_true rfl) dX11_abort_30 ⟨Nat.le_of_ble_eq_true rfl, Nat.le_of_ble_eq_true rfl⟩) hS ?_
    rintro f12 H locs - hT hS
    have hT : TW E K F (tl, [0, z1, z2, u2, u3, z5, z6, z7, z8, z9, z10, z11, z12, z13, z14, z15, z16, z17, z18, z19, z20], [f12, ar1, f4, f5, f6, ar5, ar6, ar7, ar8, ar9, ar10]) [] H := hT
    refine lv_aload_n hx hb dX11_abort_33 rfl (lv_at hl 1 rfl) ?_
    refine lv_iconst (v := 0) hx hb dX11_abort_34 (by decide) ?_
    refine pX11_6 (kq := []) (v := 0) S hK hT hS ha kf_X11_206 (Or.inl rfl) (Nat.le_of_ble_eq_true rfl) dX11_abort_35 (fun _ h => by cases h) (fun H locs hT hS => ?_)
    have hT : TW E K F (tl, [0, 0, z2, u2, u3, z5, z6, z7, z8, z9, z10, z11, z12, z13, z14, z15, z16, z17, z18, z19, z20], [f12, ar1, f4, f5, f6, ar5, ar6, ar7, ar8, ar9, ar10]) [] H := hT
    refine lv_aload_n hx hb dX11_abort_38 rfl (lv_at hl 1 rfl) ?_
    refine gX11_9 S hK hT ha kf_X11_30 dX11_abort_39 (fun hk15 => ?_)
    refine lv_iconst (v := 3) hx hb dX11_abort_42 (by decide) ?_
    refine lv_dup2_11 hx hb dX11_abort_43 rfl rfl ?_
    refine al_0 S hK hT hk15 ar_36 (by decide) (by decide) dX11_abort_44 (fun x16 o17 => ?_)
    refine lv_iconst (v := 1) hx hb dX11_abort_45 (by decide) ?_
    refine xi_iadd hx hb (rfl : Int32.toInt x16 = x16.toInt) ((by decide) : Int32.toInt 1 = (1 : Int)) dX11_abort_46 (fun x18 t19 => ?_)
    refine as_0 S hK hT hS hk15 ar_36 aw_36 (by decide) (by decide) dX11_abort_47 (fun H locs hT hS => ?_)
    refine lv_iload_n hx hb dX11_abort_48 rfl (lv_at hl 0 rfl) ?_
    exact x_ri hx hb hr hlk hQ (Nat.le_of_ble_eq_true rfl) (Nat.le_of_ble_eq_true rfl) hS dX11_abort_49 (0, 0, u2, u3, f12, f4, f5, f6) ⟨_, rfl⟩ hT.nil
  · refine lv_bipush (v := (-3)) hx hb dX11_abort_12 (by decide) ?_
    exact x_ri hx hb hr hlk hQ (Nat.le_of_ble_eq_true rfl) (Nat.le_of_ble_eq_true rfl) hS dX11_abort_14 (0, z1, z3, z4, ar0, ar2, ar3, ar4) ⟨_, rfl⟩ hT.nil

theorem z_X11_mark_1 (a0 : Int) (a1 : Int) (h0 : 0 ≤ a1 ∧ a1 ≤ 8) (h1 : a1 ≠ (8 : Int)) (h2 : a0 = (360 : Int) * a1 ∨ (360 : Int) * a1 < -2147483648 ∨ 2147483648 ≤ (360 : Int) * a1) (r0 : -2147483648 ≤ a0 ∧ a0 < 2147483648) (r1 : -2147483648 ≤ a1 ∧ a1 < 2147483648) : 0 ≤ a0 ∧ a0 ≤ 2520 := by first | (clear h1; omega) | omega
theorem z_X11_mark_2 (a0 : Int) (a1 : Int) (a2 : Int) (a3 : Int) (h0 : 0 ≤ a3 ∧ a3 ≤ 8) (h1 : a3 ≠ (8 : Int)) (h2 : a1 = (360 : Int) * a3 ∨ (360 : Int) * a3 < -2147483648 ∨ 2147483648 ≤ (360 : Int) * a3) (h3 : a2 = a3 + (1 : Int) ∨ a3 + (1 : Int) < -2147483648 ∨ 2147483648 ≤ a3 + (1 : Int)) (h4 : a0 = a2 - (1 : Int) ∨ a2 - (1 : Int) < -2147483648 ∨ 2147483648 ≤ a2 - (1 : Int)) (r0 : -2147483648 ≤ a0 ∧ a0 < 2147483648) (r1 : -2147483648 ≤ a1 ∧ a1 < 2147483648) (r2 : -2147483648 ≤ a2 ∧ a2 < 2147483648) (r3 : -2147483648 ≤ a3 ∧ a3 < 2147483648) : 0 ≤ a2 ∧ a2 ≤ 8 := by first | (clear h1 h2; omega) | omega
theorem z_X11_mark_3 (a0 : Int) (h0 : 0 ≤ a0 ∧ a0 ≤ 8) (h1 : ¬ (a0 ≠ (8 : Int))) (r0 : -2147483648 ≤ a0 ∧ a0 < 2147483648) : 0 ≤ a0 ∧ a0 ≤ 8 := by omega
theorem z_X11_mark_4 (a0 : Int) (h0 : 0 ≤ a0 ∧ a0 ≤ 8) (r0 : -2147483648 ≤ a0 ∧ a0 < 2147483648) : 0 ≤ a0 ∧ a0 ≤ 8 := by omega
abbrev rm_X11_mark : Room := { frames := 1, cells := 0, slots := 0, locals := 24 }
set_option maxHeartbeats 4000000 in
set_option maxRecDepth 100000 in
theorem c_X11_mark (l : Launch) (E : XE) (K : Nat → Nat) (F : Nat → Nat → Nat) (tl z0 z1 z2 z3 z4 z5 z6 z7 z8 z9 z10 z11 z12 z13 z14 z15 z16 z17 z18 z19 z20 : Int32) (ar0 ar1 ar2 ar3 ar4 ar5 ar6 ar7 ar8 ar9 ar10 : Nat → Int32) (a : Nat) (ha : K a = 13) (e0 : 0 ≤ z2.toInt ∧ z2.toInt ≤ 8) : Met l yX11_mark (xw yX11_mark cX11_mark 1 (some .int)) rm_X11_mark (va_Pc [.ref a] (XP E K F (tl, [z0, z1, z2, z3, z4, z5, z6, z7, z8, z9, z10, z11, z12, z13, z14, z15, z16, z17, z18, z19, z20], [ar0, ar1, ar2, ar3, ar4, ar5, ar6, ar7, ar8, ar9, ar10]))) (XQ E (fun v (u : Int32 × Int32) => ∃ r : Int32, v = .int r ∧ (0 ≤ u.2.toInt ∧ u.2.toInt ≤ 8)) (fun u H => TW E K F (tl, [u.1, z1, u.2, z3, z4, z5, z6, z7, z8, z9, z10, z11, z12, z13, z14, z15, z16, z17, z18, z19, z20], [ar0, ar1, ar2, ar3, ar4, ar5, ar6, ar7, ar8, ar9, ar10]) [] H)) 0 0 (xA E) := by
  refine x_enter (by decide) (Nat.le_of_ble_eq_true rfl) ?_
  intro p e s m args below meth c Q S hr hlk hnm hQ hP ls hl
  obtain ⟨hz, hK, hT⟩ := hP
  obtain ⟨hx, hb, -, -, -⟩ := id S
  obtain ⟨H, hT, hS, hgo⟩ : ∃ H : Heap, TW E K F (tl, [z0, z1, z2, z3, z4, z5, z6, z7, z8, z9, z10, z11, z12, z13, z14, z15, z16, z17, z18, z19, z20], [ar0, ar1, ar2, ar3, ar4, ar5, ar6, ar7, ar8, ar9, ar10]) [] H ∧ va_S (xA E) s.heap H [] ∧ H = s.heap := ⟨_, hT, va_S.rf, rfl⟩
  rw [← hgo]
  have hl : lv_has ls 1 [(0, .ref a)] := hl
  refine lv_aload_n hx hb dX11_mark_0 rfl (lv_at hl 0 rfl) ?_
  refine lv_iconst (v := 0) hx hb dX11_mark_1 (by decide) ?_
  refine pX11_0 (kq := []) (v := 0) S hK hT hS ha kf_X11_134 (Nat.le_of_ble_eq_true rfl) dX11_mark_2 (fun _ h => by cases h) (fun H locs hT hS => ?_)
  have hT : TW E K F (tl, [0, z1, z2, z3, z4, z5, z6, z7, z8, z9, z10, z11, z12, z13, z14, z15, z16, z17, z18, z19, z20], [ar0, ar1, ar2, ar3, ar4, ar5, ar6, ar7, ar8, ar9, ar10]) [] H := hT
  refine lv_aload_n hx hb dX11_mark_5 rfl (lv_at hl 0 rfl) ?_
  refine gX11_6 S hK hT ha kf_X11_206 dX11_mark_6 (v := z1) rfl ?_
  refine xi_zne (tgt := 15) hx hb (rfl : Int32.toInt z1 = z1.toInt) dX11_mark_9 (by decide) (fun c1 => ?_) (fun c1 => ?_)
  · refine lv_aload_n hx hb dX11_mark_15 rfl (lv_at hl 0 rfl) ?_
    refine gX11_7 S hK hT ha kf_X11_373 dX11_mark_16 (v := z2) rfl ?_
    refine lv_bipush (v := 8) hx hb dX11_mark_19 (by decide) ?_
    refine xi_cne (tgt := 27) hx hb (rfl : Int32.toInt z2 = z2.toInt) ((by decide) : Int32.toInt 8 = (8 : Int)) dX11_mark_21 (by decide) (fun c2 => ?_) (fun c2 => ?_)
    · refine lv_aload_n hx hb dX11_mark_27 rfl (lv_at hl 0 rfl) ?_
      refine gX11_1 S hK hT ha kf_X11_9 dX11_mark_28 (fun hk3 => ?_)
      refine lv_iconst (v := 0) hx hb dX11_mark_31 (by decide) ?_
      refine lv_aload_n hx hb dX11_mark_32 rfl (lv_at hl 0 rfl) ?_
      refine gX11_3 S hK hT ha kf_X11_18 dX11_mark_33 (fun hk4 => ?_)
      refine lv_sipush (v := 360) hx hb dX11_mark_36 (by decide) ?_
      refine lv_aload_n hx hb dX11_mark_39 rfl (lv_at hl 0 rfl) ?_
      refine gX11_7 S hK hT ha kf_X11_373 dX11_mark_40 (v := z2) rfl ?_
      refine xi_imul hx hb ((by decide) : Int32.toInt 360 = (360 : Int)) (rfl : Int32.toInt z2 = z2.toInt) dX11_mark_43 (fun x5 t6 => ?_)
      refine x_cv0 (x_runS (As := [.ref (F a 1), .int 0, .ref (F a 3), .int x5]) (rest := []) S (c_X11_copy_u l E K F tl 0 z1 z2 z3 z4 z5 z6 z7 z8 z9 z10 z11 z12 z13 z14 z15 z16 z17 z18 z19 z20 ar0 ar1 ar2 ar3 ar4 ar5 ar6 ar7 ar8 ar9 ar10 (F a 1) 0 (F a 3) x5 (XO.a hk3 (by decide)) (XOu.c hk4 (z_X11_mark_1 x5.toInt z2.toInt e0 c2 t6 (xr x5) (xr z2)))) ms_X11_copy km_X11_309 rfl rfl ⟨Nat.le_of_ble_eq_true rfl, Nat.le_of_ble_eq_true rfl⟩ hK (fun _ => XP.blind) (fun U hU hW => XP.at hK hz hS hT hU hW) rfl hl.1 (Nat.le_of_ble_eq_true rfl) dX11_mark_44 ⟨Nat.le_of_ble_eq_true rfl, Nat.le_of_ble_eq_true rfl⟩) hS ?_
      rintro _ H locs - hT hS
      refine lv_aload_n hx hb dX11_mark_47 rfl (lv_at hl 0 rfl) ?_
      refine lv_dup hx hb dX11_mark_48 rfl ?_
      refine gX11_7 S hK hT ha kf_X11_373 dX11_mark_49 (v := z2) rfl ?_
      refine lv_iconst (v := 1) hx hb dX11_mark_52 (by decide) ?_
      refine xi_iadd hx hb (rfl : Int32.toInt z2 = z2.toInt) ((by decide) : Int32.toInt 1 = (1 : Int)) dX11_mark_53 (fun x9 t10 => ?_)
      refine pX11_7 (kq := []) (v := x9) S hK hT hS ha kf_X11_373 (Nat.le_of_ble_eq_true rfl) dX11_mark_54 (fun _ h => by cases h) (fun H locs hT hS => ?_)
      have hT : TW E K F (tl, [0, z1, x9, z3, z4, z5, z6, z7, z8, z9, z10, z11, z12, z13, z14, z15, z16, z17, z18, z19, z20], [ar0, ar1, ar2, ar3, ar4, ar5, ar6, ar7, ar8, ar9, ar10]) [] H := hT
      refine lv_aload_n hx hb dX11_mark_57 rfl (lv_at hl 0 rfl) ?_
      refine gX11_7 S hK hT ha kf_X11_373 dX11_mark_58 (v := x9) rfl ?_
      refine lv_iconst (v := 1) hx hb dX11_mark_61 (by decide) ?_
      refine xi_isub hx hb (rfl : Int32.toInt x9 = x9.toInt) ((by decide) : Int32.toInt 1 = (1 : Int)) dX11_mark_62 (fun x11 t12 => ?_)
      exact x_ri hx hb hr hlk hQ (Nat.le_of_ble_eq_true rfl) (Nat.le_of_ble_eq_true rfl) hS dX11_mark_63 (0, x9) ⟨_, rfl, (z_X11_mark_2 x11.toInt x5.toInt x9.toInt z2.toInt e0 c2 t6 t10 t12 (xr x11) (xr x5) (xr x9) (xr z2))⟩ hT.nil
    · refine lv_bipush (v := (-4)) hx hb dX11_mark_24 (by decide) ?_
      exact x_ri hx hb hr hlk hQ (Nat.le_of_ble_eq_true rfl) (Nat.le_of_ble_eq_true rfl) hS dX11_mark_26 (0, z2) ⟨_, rfl, (z_X11_mark_3 z2.toInt e0 c2 (xr z2))⟩ hT.nil
  · refine lv_bipush (v := (-3)) hx hb dX11_mark_12 (by decide) ?_
    exact x_ri hx hb hr hlk hQ (Nat.le_of_ble_eq_true rfl) (Nat.le_of_ble_eq_true rfl) hS dX11_mark_14 (0, z2) ⟨_, rfl, (z_X11_mark_4 z2.toInt e0 (xr z2))⟩ hT.nil

theorem z_X11_isMark_1 (a0 : Int) (a1 : Int) (r0 : -2147483648 ≤ a0 ∧ a0 < 2147483648) (r1 : -2147483648 ≤ a1 ∧ a1 < 2147483648) : (0 : Int) = 0 ∨ ((0 : Int) = 1 ∧ 0 ≤ a0 ∧ a0 < a1) := by omega
theorem z_X11_isMark_2 (a0 : Int) (r0 : -2147483648 ≤ a0 ∧ a0 < 2147483648) : -2147483648 ≤ a0 ∧ a0 < 2147483648 := by omega
theorem z_X11_isMark_3 (a0 : Int) (a1 : Int) (a2 : Int) (h0 : (a1 = 1 ∧ (0 : Int) ≤ a0 ∧ a0 ≤ (a2 - (1 : Int))) ∨ (a1 = 0 ∧ (a0 < (0 : Int) ∨ (a2 - (1 : Int)) < a0))) (h1 : a1 = 0) (r0 : -2147483648 ≤ a0 ∧ a0 < 2147483648) (r1 : -2147483648 ≤ a1 ∧ a1 < 2147483648) (r2 : -2147483648 ≤ a2 ∧ a2 < 2147483648) : (0 : Int) = 0 ∨ ((0 : Int) = 1 ∧ 0 ≤ a0 ∧ a0 < a2) := by omega
theorem z_X11_isMark_4 (a0 : Int) (a1 : Int) (a2 : Int) (h0 : (a1 = 1 ∧ (0 : Int) ≤ a0 ∧ a0 ≤ (a2 - (1 : Int))) ∨ (a1 = 0 ∧ (a0 < (0 : Int) ∨ (a2 - (1 : Int)) < a0))) (h1 : ¬ (a1 = 0)) (r0 : -2147483648 ≤ a0 ∧ a0 < 2147483648) (r1 : -2147483648 ≤ a1 ∧ a1 < 2147483648) (r2 : -2147483648 ≤ a2 ∧ a2 < 2147483648) : (1 : Int) = 0 ∨ ((1 : Int) = 1 ∧ 0 ≤ a0 ∧ a0 < a2) := by omega
abbrev rm_X11_isMark : Room := { frames := 1, cells := 0, slots := 0, locals := 25 }
set_option maxHeartbeats 4000000 in
set_option maxRecDepth 100000 in
theorem c_X11_isMark (l : Launch) (E : XE) (K : Nat → Nat) (F : Nat → Nat → Nat) (tl z0 z1 z2 z3 z4 z5 z6 z7 z8 z9 z10 z11 z12 z13 z14 z15 z16 z17 z18 z19 z20 : Int32) (ar0 ar1 ar2 ar3 ar4 ar5 ar6 ar7 ar8 ar9 ar10 : Nat → Int32) (h0 : Heap) (a : Nat) (p0 : Int32) (ha : K a = 13) : Met l yX11_isMark (xw yX11_isMark cX11_isMark 2 (some .boolean)) rm_X11_isMark (va_Pc [.ref a, .int p0] (XPh E K F (tl, [z0, z1, z2, z3, z4, z5, z6, z7, z8, z9, z10, z11, z12, z13, z14, z15, z16, z17, z18, z19, z20], [ar0, ar1, ar2, ar3, ar4, ar5, ar6, ar7, ar8, ar9, ar10]) h0)) (XQ E (fun v (u : Unit) => ∃ r : Int32, v = .int r ∧ (r = 0 ∨ r = 1) ∧ (r.toInt = 0 ∨ (r.toInt = 1 ∧ 0 ≤ p0.toInt ∧ p0.toInt < z2.toInt))) (fun _ H => H = h0)) 0 0 (xA E) := by
  refine x_enter (by decide) (Nat.le_of_ble_eq_true rfl) ?_
  intro p e s m args below meth c Q S hr hlk hnm hQ hP ls hl
  obtain ⟨⟨hz, hK, hT⟩, hh⟩ := hP
  obtain ⟨hx, hb, -, -, -⟩ := id S
  have hS : va_S (xA E) s.heap s.heap [] := va_S.rf
  have hl : lv_has ls 2 [(0, .ref a), (1, .int p0)] := hl
  refine lv_aload_n hx hb dX11_isMark_0 rfl (lv_at hl 0 rfl) ?_
  refine gX11_6 S hK hT ha kf_X11_206 dX11_isMark_1 (v := z1) rfl ?_
  refine xi_zeq (tgt := 27) hx hb (rfl : Int32.toInt z1 = z1.toInt) dX11_isMark_4 (by decide) (fun c1 => ?_) (fun c1 => ?_)
  · refine lv_iconst (v := 0) hx hb dX11_isMark_27 (by decide) ?_
    exact x_rz hx hb hr (xnz (Or.inl rfl)) hlk hQ (Nat.le_of_ble_eq_true rfl) (Nat.le_of_ble_eq_true rfl) hS dX11_isMark_28 () ⟨_, rfl, (Or.inl rfl), (z_X11_isMark_1 p0.toInt z2.toInt (xr p0) (xr z2))⟩ hh
  · refine lv_iload_n hx hb dX11_isMark_7 rfl (lv_at hl 1 rfl) ?_
    refine lv_i2l (v := p0.toInt64) hx hb dX11_isMark_8 rfl ?_
    refine lv_lconst (v := (0 : Int64)) hx hb dX11_isMark_9 (by decide) ?_
    refine lv_aload_n hx hb dX11_isMark_10 rfl (lv_at hl 0 rfl) ?_
    refine gX11_7 S hK hT ha kf_X11_373 dX11_isMark_11 (v := z2) rfl ?_
    refine lv_i2l (v := z2.toInt64) hx hb dX11_isMark_14 rfl ?_
    refine lv_lconst (v := (1 : Int64)) hx hb dX11_isMark_15 (by decide) ?_
    refine lv_lsub hx hb dX11_isMark_16 (lv_topl (fun y2 hy3 => ?_))
    have hy3 : y2.toInt = z2.toInt - (1 : Int) := xl_sub (xl_i2l (rfl : Int32.toInt z2 = z2.toInt)) (by decide) (z_X11_isMark_2 z2.toInt (xr z2)) (by decide) hy3
    refine x_clp (x_runS (As := [.long p0.toInt64, .long (0 : Int64), .long y2]) (rest := []) S (c_X11_in l E K F tl z0 z1 z2 z3 z4 z5 z6 z7 z8 z9 z10 z11 z12 z13 z14 z15 z16 z17 z18 z19 z20 ar0 ar1 ar2 ar3 ar4 ar5 ar6 ar7 ar8 ar9 ar10 s.heap p0.toInt64 (0 : Int64) y2 p0.toInt (0 : Int) (z2.toInt - (1 : Int)) (xl_i2l (rfl : Int32.toInt p0 = p0.toInt)) (by decide) hy3) ms_X11_in km_X11_139 rfl rfl ⟨Nat.le_of_ble_eq_true rfl, Nat.le_of_ble_eq_true rfl⟩ hK (fun _ => XPh.blind) (fun U hU hW => XPh.at hK hz hS hT hU hW) rfl hl.1 (Nat.le_of_ble_eq_true rfl) dX11_isMark_17 ⟨Nat.le_of_ble_eq_true rfl, Nat.le_of_ble_eq_true rfl⟩) hS ?_
    rintro _ _ locs ⟨x4, rfl, b5, t6⟩ hS
    have t6 : (x4.toInt = 1 ∧ (0 : Int) ≤ p0.toInt ∧ p0.toInt ≤ (z2.toInt - (1 : Int))) ∨ (x4.toInt = 0 ∧ (p0.toInt < (0 : Int) ∨ (z2.toInt - (1 : Int)) < p0.toInt)) := t6
    refine xi_zeq (tgt := 27) hx hb (rfl : Int32.toInt x4 = x4.toInt) dX11_isMark_20 (by decide) (fun c7 => ?_) (fun c7 => ?_)
    · refine lv_iconst (v := 0) hx hb dX11_isMark_27 (by decide) ?_
      exact x_rz hx hb hr (xnz (Or.inl rfl)) hlk hQ (Nat.le_of_ble_eq_true rfl) (Nat.le_of_ble_eq_true rfl) hS dX11_isMark_28 () ⟨_, rfl, (Or.inl rfl), (z_X11_isMark_3 p0.toInt x4.toInt z2.toInt t6 c7 (xr p0) (xr x4) (xr z2))⟩ hh
    · refine lv_iconst (v := 1) hx hb dX11_isMark_23 (by decide) ?_
      refine lv_goto (tgt := 28) hx hb dX11_isMark_24 (by decide) ?_
      exact x_rz hx hb hr (xnz (Or.inr rfl)) hlk hQ (Nat.le_of_ble_eq_true rfl) (Nat.le_of_ble_eq_true rfl) hS dX11_isMark_28 () ⟨_, rfl, (Or.inr rfl), (z_X11_isMark_4 p0.toInt x4.toInt z2.toInt t6 c7 (xr p0) (xr x4) (xr z2))⟩ hh
